section
/-! ===== BEGIN words of one list among another's, by their places ===== -/
theorem goodIn_r {big : List Cond} (ws : List Cond) (ps : List Nat) (hp : ws = ps.filterMap (fun i => big[i]?)) (h : ws.all goodWord = true) : GoodIn big ws := by
  intro w hw
  have h1 := List.all_eq_true.mp h w hw
  rw [hp] at hw
  obtain ⟨i, -, hi⟩ := List.mem_filterMap.mp hw
  have hm : w ∈ big := by first | exact List.mem_of_getElem? hi | exact List.getElem?_mem hi
  exact ⟨hm, good_of_word h1⟩
theorem goodIn_app {big a b : List Cond} (ha : GoodIn big a) (hb : GoodIn big b) : GoodIn big (a ++ b) := fun w h => (List.mem_append.mp h).elim (ha w) (hb w)
theorem goodIn_ca {big a b : List Cond} {c : Cond} (ha : GoodIn big (c :: a)) (hb : GoodIn big b) : GoodIn big (c :: (a ++ b)) := fun w h => (List.mem_cons.mp h).elim (fun e => ha w (List.mem_cons.mpr (Or.inl e))) (fun h => (List.mem_append.mp h).elim (fun h => ha w (List.mem_cons.mpr (Or.inr h))) (hb w))
theorem goodIn_sub {big ws : List Cond} (hm : ∀ w ∈ ws, w ∈ big) (h : ws.all goodWord = true) : GoodIn big ws := fun w hw => ⟨hm w hw, good_of_word (List.all_eq_true.mp h w hw)⟩
/-! ===== END ===== -/

/-! ===== BEGIN exceptions that leave a method, and their catching by the caller (launches without stack traces) ===== -/
section VXA
/-! The laws vx_back, vx_callV, vx_callS, vx_callSW, vx_throw0, vx_throwS follow proofs of the library, with one case more: JvmDerived/Free/Laws.lean (Back.of_free), Shelf42/LK1.lean (callV, callS), Shelf/KitTraced.lean (throwNew0V, throwNewS). -/
/-- where a method has thrown q: the class by its name, the cell, what was written, the world -/
def vx_T (XC : String → State → State → Prop) (st : State) (q : Addr) (t : State) (mc ms : Nat) (free : Addr → Prop) : Prop :=
  ∃ (E : String) (ce : Cell) (L : List Loc), XC E st t ∧ t.heap[q]? = some ce ∧ ce.vm = .none ∧ st.vm.findClass E = some ce.cls ∧ st.WarmedH t.vm ∧ st.sameButNew ({ t with vm := st.vm } : State) L mc ms ∧ ∀ z ∈ L, free z.base
def vx_Q (Qc : Array Value → State → Outcome → State → Prop) (XC : String → State → State → Prop) (mc ms : Nat) (free : Addr → Prop) : Array Value → State → Outcome → State → Prop := fun a st o t =>
  (Qc a st o t ∧ ∃ L, FrameEnd st o t L mc ms ∧ ∀ q ∈ L, free q.base) ∨ ∃ q, o = .threw q ∧ vx_T XC st q t mc ms free
/-- a callee that returns or throws -/
def vx_Met (l : Launch) (y : MethodName) (ws : List Cond) (rm : Room) (Pc : Array Value → State → Prop) (Qc : Array Value → State → Outcome → State → Prop) (XC : String → State → State → Prop) (mc ms : Nat) (free : Addr → Prop) : Prop :=
  MetFree l y (headSpec ws rm) Pc (fun _ _ _ _ _ => True) (vx_Q Qc XC mc ms free)
def vx_Post (XC : String → State → State → Prop) (mc ms : Nat) (free : Addr → Prop) : Pt → Array Value → Addr → Pt → Prop := fun A a q B =>
  ∃ (g : JFrame) (mk : MethodId) (t : State) (L : List Loc) (E : String) (ce : Cell), B.U.heap = t.heap ∧ B.U.vm = t.vm ∧ XC E (A.U.calling g mk a) t ∧ t.heap[q]? = some ce ∧ ce.vm = .none ∧ A.U.vm.findClass E = some ce.cls ∧ B.locs = A.locs ++ L ∧ (∀ z ∈ L, free z.base) ∧ B.cells = A.cells + mc ∧ B.slots = A.slots + ms
def vx_Back (l : Launch) (R : Room) (p : Program) (e : Env) (below : List Frame) (s : State) (sargs : Array Value) (y : MethodName) (len W9 : Nat)
    (Pre : Pt → Array Value → Prop) (Post : Pt → Array Value → Option Value → Pt → Prop) (PostX : Pt → Array Value → Addr → Pt → Prop) : Prop :=
  ∀ (m : MethodId) (meth : Method) (c : Code) (A : Pt) (g : JFrame) (ig : Instr) (mk : MethodId) (a : Array Value),
    Stand p l e R s m sargs below meth c A.U A.locs A.cells A.slots → g.method = m → g.locals.size = c.maxLocals → decode c.code g.pc = .ok (ig, len) →
    2 * g.monitorRoom + (g.stack.map fun v => v.category).sum ≤ W9 → A.U.methodNamed? y = some mk → Pre A a →
    (∃ (v : Option Value) (B : Pt), Stand p l e R s m sargs below meth c B.U B.locs B.cells B.slots ∧ Post A a v B ∧
      Steps p.tables e below (doInvoke e (A.U.setTop g) [] mk a).1 (B.U.setTop { g with pc := g.pc + len, stack := v.toList ++ g.stack })) ∨
    (∃ (q : Addr) (B : Pt), Stand p l e R s m sargs below meth c B.U B.locs B.cells B.slots ∧ PostX A a q B ∧
      Steps p.tables e below (doInvoke e (A.U.setTop g) [] mk a).1 ((B.U.setTop g).pushFrame (.throwing q)))
section Payer
variable {l : Launch} {R : Room} {p : Program} {e : Env} {below : List Frame} {s : State} {sargs : Array Value} {y : MethodName} {len W9 : Nat}
theorem vx_back {ws : List Cond} {rm : Room} {Pc : Array Value → State → Prop} {Qc : Array Value → State → Outcome → State → Prop} {XC : String → State → State → Prop} {mc ms : Nat} {free : Addr → Prop} {bytes : ByteArray} {maxL : Nat} {ret : Option FieldType}
    (hM : vx_Met l y ws rm Pc Qc XC mc ms free) (hblind : FrameBlind Pc) (hrc : rm.cells = mc) (hrs : rm.slots = ms)
    (hframes : rm.frames + 1 ≤ R.frames) (hlocals : W9 + (maxL + 11) + rm.locals ≤ R.locals)
    (hws : ∀ w ∈ ws, ∀ a' U, s.WarmedH U.vm → w.before a' U = true) (hcode : Cond.code y bytes maxL ret ∈ ws) (hinit : ∀ a' U, s.WarmedH U.vm → (Cond.initialized y.cls).before a' U = true) :
    vx_Back l R p e below s sargs y len W9 (PreOf R mc ms Pc) (PostOf Qc mc ms free) (vx_Post XC mc ms free) := by
  intro m meth c A g ig mk a X hg hsize hdg hW hn hp
  have h1 : (headSpec ws rm).pre.before a A.U = true := atoms_intro fun w hw => hws w hw _ _ X.warmed
  have h2 : (Cond.code y bytes maxL ret).before a A.U = true := hws _ hcode _ _ X.warmed
  have h3 : (Cond.initialized y.cls).before a A.U = true := hinit _ _ X.warmed
  have h4 : A.cells + (headSpec ws rm).room.cells ≤ R.cells := by rw [show (headSpec ws rm).room.cells = mc from hrc]; exact hp.1
  have h5 : A.slots + (headSpec ws rm).room.slots ≤ R.slots := by rw [show (headSpec ws rm).room.slots = ms from hrs]; exact hp.2.1
  have hPc : Pc a (A.U.calling g mk a) := hblind _ _ _ _ hp.2.2
  obtain ⟨U, Ls, c0, s0⟩ := A
  dsimp only [Pt.U, Pt.locs, Pt.cells, Pt.slots] at h1 h2 h3 h4 h5 X hn hPc ⊢
  obtain ⟨methY, cY, hmY, hcY, -, hlY, -, -, -, -⟩ := Cond.code_spec hn h2
  obtain ⟨kY, hkY, -⟩ := className_of_methodNamed hn
  have hinitY : kY.init = .initialized := Cond.initialized_spec (findClass_of_methodNamed hn) hkY h3
  have h : At U g.method c below := by rw [hg]; exact X.here
  have hlocals9 : W9 + (maxL + 11) + (headSpec ws rm).room.locals ≤ R.locals := hlocals
  have happ : (headSpec ws rm).appliesLoose y e.platform (U.calling g mk a) = true :=
    Spec.appliesLoose_calling (g := g) h hdg hn hkY hinitY
      (X.room_calling (g := g) (R' := (headSpec ws rm).room) hsize hmY hcY hframes (by rw [hlY]; omega) h4 h5) h1
  obtain ⟨mid, hmid⟩ := h.above
  have hfr : (U.setTop g).frames = (.java g :: mid) ++ below := by rw [State.frames_setTop' g h.top, hmid]; rfl
  obtain ⟨o, s₂, hsteps, -, hend, hq⟩ := Steps.callFree hM p X.admits X.cas X.clock (acts := []) hfr happ hPc trivial
  have hq' : vx_Q Qc XC mc ms free a (U.calling g mk a) o s₂ := hq
  rw [State.frames_setTop' g h.top] at hend
  obtain ⟨g₀, hg0⟩ := Option.isSome_iff_exists.mp h.top
  obtain ⟨r, hr⟩ := State.topJava?_eq_some.mp hg0
  have hr' : (({ U with heap := s₂.heap, slotsUsed := s₂.slotsUsed } : State).setVm s₂.vm).frames = .java g₀ :: r := hr
  rcases hq' with ⟨hqc, L, hfe, hL⟩ | ⟨q, rfl, E, ce, L, hx, hce, hcv, hcl, hW₂, hsm, hL⟩
  · obtain ⟨⟨v, rfl⟩, hW₂, e2, q2, q3, q4, q5, q6⟩ := id hfe
    have e3 : s₂ = ({ (U.calling g mk a).setFrames s₂.frames with heap := s₂.heap, slotsUsed := s₂.slotsUsed } : State).setVm s₂.vm := by
      have : s₂ = ({ s₂ with vm := (U.calling g mk a).vm } : State).setVm s₂.vm := rfl
      rw [e2] at this
      exact this
    obtain ⟨c₂, i₂, len₂, hc₂, hd₂, hf₂⟩ := hend
    have hW' : U.WarmedH s₂.vm := hW₂
    have hcc : c₂ = c := by
      have h1 : s₂.code? g.method = U.code? g.method := by
        rw [State.code?_eq, State.code?_eq, hW'.alike.method?]
      exact Option.some.inj (hc₂.symm.trans (h1.trans h.code))
    subst hcc
    have hlen : len₂ = len := by rw [hdg] at hd₂; cases hd₂; rfl
    subst hlen
    have hs₂ : s₂ = (({ U with heap := s₂.heap, slotsUsed := s₂.slotsUsed } : State).setVm s₂.vm).setTop { g with pc := g.pc + len₂, stack := v.toList ++ g.stack } := by
      refine e3.trans ?_
      rw [hf₂, State.calling_eq h.top, State.setFrames_setFrames, State.setTop_of_frames _ hr', hr]
      rfl
    have hsame : U.sameButNew ({ U with heap := s₂.heap, slotsUsed := s₂.slotsUsed } : State) L mc ms := by
      refine ⟨?_, q2, q3, q4, q5, q6⟩
      obtain ⟨t, ht, -⟩ := State.frames_cons hr
      show ({ U with heap := s₂.heap, slotsUsed := s₂.slotsUsed } : State) = { U.setFrames U.frames with heap := s₂.heap, slotsUsed := s₂.slotsUsed }
      rw [State.setFrames_self ht]
    subst hg
    refine Or.inl ⟨v, ⟨(({ U with heap := s₂.heap, slotsUsed := s₂.slotsUsed } : State).setVm s₂.vm), Ls ++ L, c0 + mc, s0 + ms⟩,
      ⟨X.admits, X.cas, X.clock, X.frames, X.room, X.hears, X.method, X.code, (X.here.setHeapUsed s₂.heap s₂.slotsUsed).setVm hW'.alike, X.tail, State.WarmedH.trans X.warmed hW', X.limits, X.bytes, X.same.trans (hsame.setVm s.vm)⟩,
      ⟨g, mk, s₂, L, rfl, rfl, hqc, rfl, hL, rfl, rfl⟩, ?_⟩
    show Steps p.tables e below _ ((({ U with heap := s₂.heap, slotsUsed := s₂.slotsUsed } : State).setVm s₂.vm).setTop { g with pc := g.pc + len₂, stack := v.toList ++ g.stack })
    rw [← hs₂]
    exact hsteps
  · obtain ⟨e2, q2, q3, q4, q5, q6⟩ := id hsm
    have e3 : s₂ = ({ (U.calling g mk a).setFrames s₂.frames with heap := s₂.heap, slotsUsed := s₂.slotsUsed } : State).setVm s₂.vm := by
      have : s₂ = ({ s₂ with vm := (U.calling g mk a).vm } : State).setVm s₂.vm := rfl
      rw [e2] at this
      exact this
    have hf₂ : s₂.frames = .throwing q :: .java g :: U.frames.tail := hend
    have hW' : U.WarmedH s₂.vm := hW₂
    have hs₂ : s₂ = ((({ U with heap := s₂.heap, slotsUsed := s₂.slotsUsed } : State).setVm s₂.vm).setTop g).pushFrame (.throwing q) := by
      refine e3.trans ?_
      rw [hf₂, State.calling_eq h.top, State.setFrames_setFrames, State.pushFrame, State.frames_setTop _ hr', State.setTop_of_frames _ hr', State.setFrames_setFrames, hr]
      rfl
    have hsame : U.sameButNew ({ U with heap := s₂.heap, slotsUsed := s₂.slotsUsed } : State) L mc ms := by
      refine ⟨?_, q2, q3, q4, q5, q6⟩
      obtain ⟨t, ht, -⟩ := State.frames_cons hr
      show ({ U with heap := s₂.heap, slotsUsed := s₂.slotsUsed } : State) = { U.setFrames U.frames with heap := s₂.heap, slotsUsed := s₂.slotsUsed }
      rw [State.setFrames_self ht]
    subst hg
    refine Or.inr ⟨q, ⟨(({ U with heap := s₂.heap, slotsUsed := s₂.slotsUsed } : State).setVm s₂.vm), Ls ++ L, c0 + mc, s0 + ms⟩,
      ⟨X.admits, X.cas, X.clock, X.frames, X.room, X.hears, X.method, X.code, (X.here.setHeapUsed s₂.heap s₂.slotsUsed).setVm hW'.alike, X.tail, State.WarmedH.trans X.warmed hW', X.limits, X.bytes, X.same.trans (hsame.setVm s.vm)⟩,
      ⟨g, mk, s₂, L, E, ce, rfl, rfl, hx, hce, hcv, hcl, rfl, hL, rfl, rfl⟩, ?_⟩
    show Steps p.tables e below _ (((({ U with heap := s₂.heap, slotsUsed := s₂.slotsUsed } : State).setVm s₂.vm).setTop g).pushFrame (.throwing q))
    rw [← hs₂]
    exact hsteps
end Payer
section Calls
variable {p : Program} {l : Launch} {e : Env} {R : Room} {s : State} {m : MethodId} {args : Array Value} {below : List Frame} {meth : Method} {c : Code} {T : State} {locs : List Loc} {cells slots : Nat}
theorem vx_callV (X : Stand p l e R s m args below meth c T locs cells slots) (hexec : p.tables.exec = Jvm.exec) {own C : String} {index : Nat} {y : MethodName} {bytes : ByteArray} {maxL : Nat} {ret : Option FieldType}
    (hown : s.vm.findClass own = some m.cls) (hlink : (Cond.methodLink own index y).before args s = true) (hinst : (Cond.instanceMethod y).before args s = true) (hsel : (Cond.selects C y y).before args s = true)
    (hcode : (Cond.code y bytes maxL ret).before args s = true) (hy : y.cls ≠ "java/lang/invoke/MethodHandle" ∧ y.cls ≠ "java/lang/invoke/VarHandle")
    {W9 : Nat} {Pre : Pt → Array Value → Prop} {Post : Pt → Array Value → Option Value → Pt → Prop} {PostX : Pt → Array Value → Addr → Pt → Prop} (hK : vx_Back l R p e below s args y 3 W9 Pre Post PostX)
    {b : Addr} {cellB : Cell} (hcell : T.heap[b]? = some cellB) (hobj : cellB.vm.isStatics = false) (hcls : s.vm.findClass C = some cellB.cls)
    {g : JFrame} (hg : g.method = m) (hsize : g.locals.size = c.maxLocals) {argsL rest : List Value} (hlen : ∀ sig, parseMethodDescriptor y.desc = some sig → argsL.length = sig.parameters.length)
    (hstack : g.stack = argsL.reverse ++ .ref b :: rest) (hW : 2 * g.monitorRoom + (rest.map fun v => v.category).sum ≤ W9) (hdg : decode c.code g.pc = .ok (.invokevirtual index, 3))
    (hpre : ∀ vm₁, s.WarmedH vm₁ → Pre ⟨T.setVm vm₁, locs, cells, slots⟩ (Value.ref b :: argsL).toArray) :
    (∃ (v : Option Value) (vm₁ : Vm) (B : Pt), s.WarmedH vm₁ ∧ Stand p l e R s m args below meth c B.U B.locs B.cells B.slots ∧ Post ⟨T.setVm vm₁, locs, cells, slots⟩ (Value.ref b :: argsL).toArray v B ∧
      ∀ target, Steps p.tables e below (B.U.setTop { g with pc := g.pc + 3, stack := v.toList ++ rest }) target → Steps p.tables e below (T.setTop g) target) ∨
    (∃ (q : Addr) (vm₁ : Vm) (B : Pt), s.WarmedH vm₁ ∧ Stand p l e R s m args below meth c B.U B.locs B.cells B.slots ∧ PostX ⟨T.setVm vm₁, locs, cells, slots⟩ (Value.ref b :: argsL).toArray q B ∧
      Steps p.tables e below (T.setTop g) ((B.U.setTop { g with stack := rest }).pushFrame (.throwing q))) := by
  obtain ⟨mk, methM, hnamed, hmethM, hstM, habM⟩ := Cond.instanceMethod_spec hinst
  obtain ⟨methM', cM, hmethM', -, -, -, -, -, -, hsigM⟩ := Cond.code_spec hnamed hcode
  cases hmethM.symm.trans hmethM'
  obtain ⟨c2, r2, m2, q1, q2, q3, q4, kP, hkP, hkPi⟩ := Cond.selects_spec hsel
  cases hcls.symm.trans q1
  cases (State.methodFound?_of_named hnamed hy).symm.trans q2
  cases hnamed.symm.trans q3
  have hselP : selectMethod e.platform s.vm cellB.cls mk = .method mk := by rw [Launch.admits_selectMethod X.admits]; exact q4
  obtain ⟨vm₁, X₁, hstep₁⟩ := X.invokevirtual hexec hown hlink hnamed hmethM hstM hkP hkPi hy (a := b) (cell := cellB) hcell
    (fun z h => by rw [h] at hobj; cases hobj) hselP hmethM habM hkP hkPi (g := g) hg (argsL := argsL) (rest := rest) (hlen _ hsigM) hstack hdg
  rcases hK m meth c ⟨T.setVm vm₁, locs, cells, slots⟩ { g with stack := rest } (.invokevirtual index) mk (Value.ref b :: argsL).toArray X₁ hg hsize hdg hW (X₁.named hnamed) (hpre vm₁ X₁.warmed) with ⟨v, B, X', hpost, hsteps⟩ | ⟨q, B, X', hpost, hsteps⟩
  · exact Or.inl ⟨v, vm₁, B, X₁.warmed, X', hpost, fun target h => hstep₁ _ fun acts => by rw [doInvoke_state]; exact hsteps.trans h⟩
  · exact Or.inr ⟨q, vm₁, B, X₁.warmed, X', hpost, hstep₁ _ fun acts => by rw [doInvoke_state]; exact hsteps⟩
theorem vx_callS (X : Stand p l e R s m args below meth c T locs cells slots) (hexec : p.tables.exec = Jvm.exec) {own : String} {index : Nat} {y : MethodName} {bytes : ByteArray} {maxL : Nat} {ret : Option FieldType}
    (hown : s.vm.findClass own = some m.cls) (hlink : (Cond.methodLink own index y).before args s = true) (hstat : (Cond.static y).before args s = true) (hinit : (Cond.initialized y.cls).before args s = true)
    (hcode : (Cond.code y bytes maxL ret).before args s = true) (hy : y.cls ≠ "java/lang/invoke/MethodHandle" ∧ y.cls ≠ "java/lang/invoke/VarHandle")
    {W9 : Nat} {Pre : Pt → Array Value → Prop} {Post : Pt → Array Value → Option Value → Pt → Prop} {PostX : Pt → Array Value → Addr → Pt → Prop} (hK : vx_Back l R p e below s args y 3 W9 Pre Post PostX)
    {g : JFrame} (hg : g.method = m) (hsize : g.locals.size = c.maxLocals) {argsL rest : List Value} (hlen : ∀ sig, parseMethodDescriptor y.desc = some sig → argsL.length = sig.parameters.length)
    (hstack : g.stack = argsL.reverse ++ rest) (hW : 2 * g.monitorRoom + (rest.map fun v => v.category).sum ≤ W9) (hdg : decode c.code g.pc = .ok (.invokestatic index, 3))
    (hpre : ∀ vm₁, s.WarmedH vm₁ → Pre ⟨T.setVm vm₁, locs, cells, slots⟩ argsL.toArray) :
    (∃ (v : Option Value) (vm₁ : Vm) (B : Pt), s.WarmedH vm₁ ∧ Stand p l e R s m args below meth c B.U B.locs B.cells B.slots ∧ Post ⟨T.setVm vm₁, locs, cells, slots⟩ argsL.toArray v B ∧
      ∀ target, Steps p.tables e below (B.U.setTop { g with pc := g.pc + 3, stack := v.toList ++ rest }) target → Steps p.tables e below (T.setTop g) target) ∨
    (∃ (q : Addr) (vm₁ : Vm) (B : Pt), s.WarmedH vm₁ ∧ Stand p l e R s m args below meth c B.U B.locs B.cells B.slots ∧ PostX ⟨T.setVm vm₁, locs, cells, slots⟩ argsL.toArray q B ∧
      Steps p.tables e below (T.setTop g) ((B.U.setTop { g with stack := rest }).pushFrame (.throwing q))) := by
  obtain ⟨mk, hnamed⟩ := Cond.code_named hcode
  obtain ⟨methM, cM, hmethM, -, -, -, -, -, -, hsigM⟩ := Cond.code_spec hnamed hcode
  have hstatic : methM.isStatic = true := Cond.static_spec hnamed hmethM hstat
  obtain ⟨kP, hkP, -⟩ := className_of_methodNamed hnamed
  have hinitP : kP.init = .initialized := Cond.initialized_spec (findClass_of_methodNamed hnamed) hkP hinit
  obtain ⟨vm₁, X₁, hstep₁⟩ := X.invokestatic hexec hown hlink hnamed hmethM hstatic hkP hinitP hy (g := g) hg (argsL := argsL) (rest := rest) (hlen _ hsigM) hstack hdg
  rcases hK m meth c ⟨T.setVm vm₁, locs, cells, slots⟩ { g with stack := rest } (.invokestatic index) mk argsL.toArray X₁ hg hsize hdg hW (X₁.named hnamed) (hpre vm₁ X₁.warmed) with ⟨v, B, X', hpost, hsteps⟩ | ⟨q, B, X', hpost, hsteps⟩
  · exact Or.inl ⟨v, vm₁, B, X₁.warmed, X', hpost, fun target h => hstep₁ _ fun acts => by rw [doInvoke_state]; exact hsteps.trans h⟩
  · exact Or.inr ⟨q, vm₁, B, X₁.warmed, X', hpost, hstep₁ _ fun acts => by rw [doInvoke_state]; exact hsteps⟩
end Calls
theorem vx_cls {s : State} {T : State} {vm₁ : Vm} {E : String} {k : ClassId} (hW : s.WarmedH vm₁) (h : (T.setVm vm₁).vm.findClass E = some k) : s.vm.findClass E = some k := by
  have h1 : vm₁.findClass E = some k := h
  rw [hW.alike.findClass] at h1
  exact h1
/-- the method's frame g, with q thrown over it -/
def vx_W (p : Program) (l : Launch) (e : Env) (R : Room) (s : State) (m : MethodId) (args : Array Value) (below : List Frame) (meth : Method) (c : Code) (H : Heap) (locs : List Loc) (cells slots : Nat) (Q : State → Prop) (g : JFrame) (q : Addr) : Prop :=
  ∀ T : State, T.heap = H → Stand p l e R s m args below meth c T locs cells slots → ∃ t, Steps p.tables e below ((T.setTop g).pushFrame (.throwing q)) t ∧ Q t
def vx_Run (p : Program) (l : Launch) (e : Env) (R : Room) (s : State) (m : MethodId) (args : Array Value) (below : List Frame) (meth : Method) (c : Code) (H : Heap) (locs : List Loc) (cells slots mc ms : Nat) (g : JFrame) (rest : List Value) (Qa : State → Outcome → State → Prop) (XC : String → State → State → Prop) (free : Addr → Prop) : Prop :=
  ∀ T : State, T.heap = H → Stand p l e R s m args below meth c T locs cells slots →
    (∃ (v : Option Value) (st₀ t T' : State) (L : List Loc), st₀.heap = H ∧ Stand p l e R s m args below meth c T' (locs ++ L) (cells + mc) (slots + ms) ∧ (∀ q ∈ L, free q.base) ∧ T'.heap = t.heap ∧ T'.vm = t.vm ∧ Qa st₀ (.returned v) t ∧
      Goes p e below T g T' { g with pc := g.pc + 3, stack := v.toList ++ rest }) ∨
    (∃ (q : Addr) (st₀ t T' : State) (L : List Loc) (E : String) (ce : Cell), st₀.heap = H ∧ Stand p l e R s m args below meth c T' (locs ++ L) (cells + mc) (slots + ms) ∧ (∀ z ∈ L, free z.base) ∧ T'.heap = t.heap ∧ T'.vm = t.vm ∧ XC E st₀ t ∧ t.heap[q]? = some ce ∧ ce.vm = .none ∧ s.vm.findClass E = some ce.cls ∧
      Steps p.tables e below (T.setTop g) ((T'.setTop { g with stack := rest }).pushFrame (.throwing q)))
def vx_X {S : Type} (px : S → Prop) (B : String → S → State → Prop) (A : Nat → Prop) : String → State → State → Prop := fun E st t => ∃ u : S, px u ∧ B E u t ∧ va_F A st t
section Runs
variable {p : Program} {l : Launch} {e : Env} {R : Room} {s : State} {m : MethodId} {args : Array Value} {below : List Frame} {meth : Method} {c : Code} {H : Heap} {locs : List Loc} {cells slots : Nat}
variable {y : MethodName} {bytes cc : ByteArray} {maxL nL mc ms n index : Nat} {ret : Option FieldType} {ws : List Cond} {rm : Room} {Pc : Array Value → State → Prop} {Qc : Array Value → State → Outcome → State → Prop} {XC : String → State → State → Prop} {free : Addr → Prop} {Ts : List Cond} {own C : String} {b : Addr} {As rest : List Value} {g : JFrame}
theorem vx_callBack (cb : CallB R s args own index y bytes maxL ret ws rm mc ms n) (hM : vx_Met l y ws rm Pc Qc XC mc ms free) (hbl : FrameBlind Pc) : vx_Back l R p e below s args y 3 8 (PreOf R mc ms Pc) (PostOf Qc mc ms free) (vx_Post XC mc ms free) := by
  obtain ⟨hrc, hrs, hfr, hlo, hws, hcw, -, hini, -⟩ := cb
  exact vx_back (bytes := bytes) (maxL := maxL) (ret := ret) hM hbl hrc hrs hfr hlo hws hcw (fun a' U hW => word_at hW (Or.inl (by first | rfl | simp [Cond.onTables, Cond.keeps, Cond.steady])) hini)
theorem vx_runV (S : CallFix p m c cc nL s args Ts own) (hM : vx_Met l y ws rm Pc Qc XC mc ms free) (cw : CallW R s args own C index y bytes maxL ret ws rm mc ms n) (hp : PreV s H C b Pc As)
    (hg : g.method = m) (hn : As.length = n) (hsize : g.locals.size = nL) (hstack : g.stack = As.reverse ++ .ref b :: rest) (hW : 2 * g.monitorRoom + (rest.map fun v => v.category).sum ≤ 8) (hdg : decode cc g.pc = .ok (.invokevirtual index, 3)) (hf : cells + mc ≤ R.cells ∧ slots + ms ≤ R.slots) :
    vx_Run p l e R s m args below meth c H locs cells slots mc ms g rest (Qc (Value.ref b :: As).toArray) XC free := by
  have hK : vx_Back l R p e below s args y 3 8 (PreOf R mc ms Pc) (PostOf Qc mc ms free) (vx_Post XC mc ms free) := vx_callBack cw.1 hM hp.1
  obtain ⟨⟨-, -, -, -, -, -, hcode, -, hy, hlen, hl⟩, hin, hse⟩ := cw
  obtain ⟨hx, hb, hml, ho, -⟩ := S
  obtain ⟨-, ⟨cellB, hcB, hoB, hclB⟩, hPc⟩ := hp
  intro T hT X
  rcases vx_callV X hx (C := C) (bytes := bytes) (maxL := maxL) (ret := ret) ho hl hin hse hcode hy hK (by rw [hT]; exact hcB) hoB hclB hg (hsize.trans hml.symm) (argsL := As) (rest := rest) (fun sig h => hn.trans (hlen sig h)) hstack hW (by rw [hb]; exact hdg)
    (fun vm₁ hW₁ => ⟨hf.1, hf.2, hPc (T.setVm vm₁) hT hW₁⟩) with ⟨v, vm₁, ⟨U', l2, c2, s2⟩, hW₁, X', ⟨g', mk, t, L, e1, e2, hq, h1, hL, h2, h3⟩, st⟩ | ⟨q, vm₁, ⟨U', l2, c2, s2⟩, hW₁, X', ⟨g', mk, t, L, E, ce, e1, e2, hq, hce, hcv, hcl, h1, hL, h2, h3⟩, st⟩
  · dsimp only [Pt.U, Pt.locs, Pt.cells, Pt.slots] at X' e1 e2 h1 h2 h3 st
    subst h1; subst h2; subst h3
    exact Or.inl ⟨v, (T.setVm vm₁).calling g' mk (Value.ref b :: As).toArray, t, U', L, hT, X', hL, e1, e2, hq, st⟩
  · dsimp only [Pt.U, Pt.locs, Pt.cells, Pt.slots] at X' e1 e2 h1 h2 h3 st hcl
    subst h1; subst h2; subst h3
    exact Or.inr ⟨q, (T.setVm vm₁).calling g' mk (Value.ref b :: As).toArray, t, U', L, E, ce, hT, X', hL, e1, e2, hq, hce, hcv, vx_cls hW₁ hcl, st⟩
theorem vx_runS (S : CallFix p m c cc nL s args Ts own) (hM : vx_Met l y ws rm Pc Qc XC mc ms free) (cw : CallB R s args own index y bytes maxL ret ws rm mc ms n ∧ (Cond.static y).before args s = true) (hp : PreS s H Pc As)
    (hg : g.method = m) (hn : As.length = n) (hsize : g.locals.size = nL) (hstack : g.stack = As.reverse ++ rest) (hW : 2 * g.monitorRoom + (rest.map fun v => v.category).sum ≤ 8) (hdg : decode cc g.pc = .ok (.invokestatic index, 3)) (hf : cells + mc ≤ R.cells ∧ slots + ms ≤ R.slots) :
    vx_Run p l e R s m args below meth c H locs cells slots mc ms g rest (Qc As.toArray) XC free := by
  have hK : vx_Back l R p e below s args y 3 8 (PreOf R mc ms Pc) (PostOf Qc mc ms free) (vx_Post XC mc ms free) := vx_callBack cw.1 hM hp.1
  obtain ⟨⟨-, -, -, -, -, -, hcode, hini, hy, hlen, hl⟩, hstt⟩ := cw
  obtain ⟨hx, hb, hml, ho, -⟩ := S
  intro T hT X
  rcases vx_callS X hx (bytes := bytes) (maxL := maxL) (ret := ret) ho hl hstt hini hcode hy hK hg (hsize.trans hml.symm) (argsL := As) (rest := rest) (fun sig h => hn.trans (hlen sig h)) hstack hW (by rw [hb]; exact hdg)
    (fun vm₁ hW₁ => ⟨hf.1, hf.2, hp.2 (T.setVm vm₁) hT hW₁⟩) with ⟨v, vm₁, ⟨U', l2, c2, s2⟩, hW₁, X', ⟨g', mk, t, L, e1, e2, hq, h1, hL, h2, h3⟩, st⟩ | ⟨q, vm₁, ⟨U', l2, c2, s2⟩, hW₁, X', ⟨g', mk, t, L, E, ce, e1, e2, hq, hce, hcv, hcl, h1, hL, h2, h3⟩, st⟩
  · dsimp only [Pt.U, Pt.locs, Pt.cells, Pt.slots] at X' e1 e2 h1 h2 h3 st
    subst h1; subst h2; subst h3
    exact Or.inl ⟨v, (T.setVm vm₁).calling g' mk As.toArray, t, U', L, hT, X', hL, e1, e2, hq, st⟩
  · dsimp only [Pt.U, Pt.locs, Pt.cells, Pt.slots] at X' e1 e2 h1 h2 h3 st hcl
    subst h1; subst h2; subst h3
    exact Or.inr ⟨q, (T.setVm vm₁).calling g' mk As.toArray, t, U', L, E, ce, hT, X', hL, e1, e2, hq, hce, hcv, vx_cls hW₁ hcl, st⟩
end Runs
section Rows
variable {p : Program} {l : Launch} {e : Env} {R : Room} {s : State} {m : MethodId} {args : Array Value} {below : List Frame} {meth : Method} {c : Code} {H : Heap} {locs : List Loc} {cells slots : Nat} {Q : State → Prop}
variable {mc ms : Nat} {free : Addr → Prop} {A0 A1 : Nat → Prop} {H0 : Heap} {a : Array Value} {pc : Nat} {ls : Array Slot} {st0 rest : List Value}
theorem vx_keep {st₀ t T' : State} {L : List Loc} (h0 : st₀.heap = H) (e1 : T'.heap = t.heap) (hS : va_S A0 H0 H locs) (hA : ∀ q, q < H.size → A1 q → A0 q) (hf : ∀ q, free q → A0 q) (hL : ∀ q ∈ L, free q.base) (hF : va_F A1 st₀ t) :
    H.size ≤ T'.heap.size ∧ (∀ q : Nat, q < H.size → ¬ A1 q → T'.heap[q]? = H[q]?) ∧ va_S A0 H0 T'.heap (locs ++ L) := by
  obtain ⟨hz, hk⟩ := hF
  rw [h0] at hz hk
  exact ⟨by rw [e1]; exact hz, fun q h1 h2 => by rw [e1]; exact hk q h1 h2,
    ⟨Nat.le_trans hS.1 (by rw [e1]; exact hz), fun q h1 h2 => by rw [e1, hk q (Nat.lt_of_lt_of_le h1 hS.1) (fun z => h2 (hA q (Nat.lt_of_lt_of_le h1 hS.1) z))]; exact hS.2.1 q h1 h2, fun q hq => by
      rcases List.mem_append.mp hq with h | h
      · exact hS.2.2 q h
      · exact hf _ (hL q h)⟩⟩
theorem vx_calli {S SX : Type} {post : Int32 → S → Prop} {px : SX → Prop} {B : S → State → Prop} {BX : String → SX → State → Prop} {AX : Nat → Prop} (hr : vx_Run p l e R s m args below meth c H locs cells slots mc ms (F0 m pc ls st0) rest (va_Qi post B A1 a) (vx_X px BX AX) free) (hS : va_S A0 H0 H locs) (hA : ∀ q, q < H.size → A1 q → A0 q) (hf : ∀ q, free q → A0 q) (hAX : ∀ q, q < H.size → AX q → A0 q)
    (kx : ∀ (E : String) (ce : Cell) (q9 : Addr) (u : SX) (t : State) (H1 : Heap) (locs1 : List Loc), t.heap = H1 → s.vm.Alike t.vm → px u → BX E u t → H.size ≤ H1.size → (∀ q : Nat, q < H.size → ¬ AX q → H1[q]? = H[q]?) → va_S A0 H0 H1 locs1 → H1[q9]? = some ce → ce.vm = .none → s.vm.findClass E = some ce.cls → vx_W p l e R s m args below meth c H1 locs1 (cells + mc) (slots + ms) Q (F0 m pc ls rest) q9)
    (kk : ∀ (r : Int32) (u : S) (t : State) (H1 : Heap) (locs1 : List Loc), t.heap = H1 → s.vm.Alike t.vm → post r u → B u t → H.size ≤ H1.size → (∀ q : Nat, q < H.size → ¬ A1 q → H1[q]? = H[q]?) → va_S A0 H0 H1 locs1 → W p l e R s m args below meth c H1 locs1 (cells + mc) (slots + ms) Q (F0 m (pc + 3) ls (.int r :: rest))) : W p l e R s m args below meth c H locs cells slots Q (F0 m pc ls st0) := by
  intro T hT X
  rcases hr T hT X with ⟨v, st₀, t, T', L, h0, X', hL, e1, e2, ⟨⟨r, u, hv, hp, hb⟩, hF⟩, st⟩ | ⟨q, st₀, t, T', L, E, ce, h0, X', hL, e1, e2, ⟨u, hp, hb, hF⟩, hce, hcv, hcl, st⟩
  · cases hv
    obtain ⟨k1, k2, k3⟩ := vx_keep h0 e1 hS hA hf hL hF
    obtain ⟨t2, a1, b1⟩ := kk r u t T'.heap (locs ++ L) e1.symm (by rw [← e2]; exact X'.warmed.alike) hp hb k1 k2 k3 T' rfl X'
    exact ⟨t2, st t2 a1, b1⟩
  · obtain ⟨k1, k2, k3⟩ := vx_keep h0 e1 hS hAX hf hL hF
    obtain ⟨t2, a1, b1⟩ := kx E ce q u t T'.heap (locs ++ L) e1.symm (by rw [← e2]; exact X'.warmed.alike) hp hb k1 k2 k3 (by rw [e1]; exact hce) hcv hcl T' rfl X'
    exact ⟨t2, st.trans a1, b1⟩
theorem vx_calll {S SX : Type} {post : Int64 → S → Prop} {px : SX → Prop} {B : S → State → Prop} {BX : String → SX → State → Prop} {AX : Nat → Prop} (hr : vx_Run p l e R s m args below meth c H locs cells slots mc ms (F0 m pc ls st0) rest (va_Ql post B A1 a) (vx_X px BX AX) free) (hS : va_S A0 H0 H locs) (hA : ∀ q, q < H.size → A1 q → A0 q) (hf : ∀ q, free q → A0 q) (hAX : ∀ q, q < H.size → AX q → A0 q)
    (kx : ∀ (E : String) (ce : Cell) (q9 : Addr) (u : SX) (t : State) (H1 : Heap) (locs1 : List Loc), t.heap = H1 → s.vm.Alike t.vm → px u → BX E u t → H.size ≤ H1.size → (∀ q : Nat, q < H.size → ¬ AX q → H1[q]? = H[q]?) → va_S A0 H0 H1 locs1 → H1[q9]? = some ce → ce.vm = .none → s.vm.findClass E = some ce.cls → vx_W p l e R s m args below meth c H1 locs1 (cells + mc) (slots + ms) Q (F0 m pc ls rest) q9)
    (kk : ∀ (r : Int64) (u : S) (t : State) (H1 : Heap) (locs1 : List Loc), t.heap = H1 → s.vm.Alike t.vm → post r u → B u t → H.size ≤ H1.size → (∀ q : Nat, q < H.size → ¬ A1 q → H1[q]? = H[q]?) → va_S A0 H0 H1 locs1 → W p l e R s m args below meth c H1 locs1 (cells + mc) (slots + ms) Q (F0 m (pc + 3) ls (.long r :: rest))) : W p l e R s m args below meth c H locs cells slots Q (F0 m pc ls st0) := by
  intro T hT X
  rcases hr T hT X with ⟨v, st₀, t, T', L, h0, X', hL, e1, e2, ⟨⟨r, u, hv, hp, hb⟩, hF⟩, st⟩ | ⟨q, st₀, t, T', L, E, ce, h0, X', hL, e1, e2, ⟨u, hp, hb, hF⟩, hce, hcv, hcl, st⟩
  · cases hv
    obtain ⟨k1, k2, k3⟩ := vx_keep h0 e1 hS hA hf hL hF
    obtain ⟨t2, a1, b1⟩ := kk r u t T'.heap (locs ++ L) e1.symm (by rw [← e2]; exact X'.warmed.alike) hp hb k1 k2 k3 T' rfl X'
    exact ⟨t2, st t2 a1, b1⟩
  · obtain ⟨k1, k2, k3⟩ := vx_keep h0 e1 hS hAX hf hL hF
    obtain ⟨t2, a1, b1⟩ := kx E ce q u t T'.heap (locs ++ L) e1.symm (by rw [← e2]; exact X'.warmed.alike) hp hb k1 k2 k3 (by rw [e1]; exact hce) hcv hcl T' rfl X'
    exact ⟨t2, st.trans a1, b1⟩
theorem vx_callf {S SX : Type} {post : UInt32 → S → Prop} {px : SX → Prop} {B : S → State → Prop} {BX : String → SX → State → Prop} {AX : Nat → Prop} (hr : vx_Run p l e R s m args below meth c H locs cells slots mc ms (F0 m pc ls st0) rest (va_Qf post B A1 a) (vx_X px BX AX) free) (hS : va_S A0 H0 H locs) (hA : ∀ q, q < H.size → A1 q → A0 q) (hf : ∀ q, free q → A0 q) (hAX : ∀ q, q < H.size → AX q → A0 q)
    (kx : ∀ (E : String) (ce : Cell) (q9 : Addr) (u : SX) (t : State) (H1 : Heap) (locs1 : List Loc), t.heap = H1 → s.vm.Alike t.vm → px u → BX E u t → H.size ≤ H1.size → (∀ q : Nat, q < H.size → ¬ AX q → H1[q]? = H[q]?) → va_S A0 H0 H1 locs1 → H1[q9]? = some ce → ce.vm = .none → s.vm.findClass E = some ce.cls → vx_W p l e R s m args below meth c H1 locs1 (cells + mc) (slots + ms) Q (F0 m pc ls rest) q9)
    (kk : ∀ (r : UInt32) (u : S) (t : State) (H1 : Heap) (locs1 : List Loc), t.heap = H1 → s.vm.Alike t.vm → post r u → B u t → H.size ≤ H1.size → (∀ q : Nat, q < H.size → ¬ A1 q → H1[q]? = H[q]?) → va_S A0 H0 H1 locs1 → W p l e R s m args below meth c H1 locs1 (cells + mc) (slots + ms) Q (F0 m (pc + 3) ls (.float r :: rest))) : W p l e R s m args below meth c H locs cells slots Q (F0 m pc ls st0) := by
  intro T hT X
  rcases hr T hT X with ⟨v, st₀, t, T', L, h0, X', hL, e1, e2, ⟨⟨r, u, hv, hp, hb⟩, hF⟩, st⟩ | ⟨q, st₀, t, T', L, E, ce, h0, X', hL, e1, e2, ⟨u, hp, hb, hF⟩, hce, hcv, hcl, st⟩
  · cases hv
    obtain ⟨k1, k2, k3⟩ := vx_keep h0 e1 hS hA hf hL hF
    obtain ⟨t2, a1, b1⟩ := kk r u t T'.heap (locs ++ L) e1.symm (by rw [← e2]; exact X'.warmed.alike) hp hb k1 k2 k3 T' rfl X'
    exact ⟨t2, st t2 a1, b1⟩
  · obtain ⟨k1, k2, k3⟩ := vx_keep h0 e1 hS hAX hf hL hF
    obtain ⟨t2, a1, b1⟩ := kx E ce q u t T'.heap (locs ++ L) e1.symm (by rw [← e2]; exact X'.warmed.alike) hp hb k1 k2 k3 (by rw [e1]; exact hce) hcv hcl T' rfl X'
    exact ⟨t2, st.trans a1, b1⟩
theorem vx_calld {S SX : Type} {post : UInt64 → S → Prop} {px : SX → Prop} {B : S → State → Prop} {BX : String → SX → State → Prop} {AX : Nat → Prop} (hr : vx_Run p l e R s m args below meth c H locs cells slots mc ms (F0 m pc ls st0) rest (va_Qd post B A1 a) (vx_X px BX AX) free) (hS : va_S A0 H0 H locs) (hA : ∀ q, q < H.size → A1 q → A0 q) (hf : ∀ q, free q → A0 q) (hAX : ∀ q, q < H.size → AX q → A0 q)
    (kx : ∀ (E : String) (ce : Cell) (q9 : Addr) (u : SX) (t : State) (H1 : Heap) (locs1 : List Loc), t.heap = H1 → s.vm.Alike t.vm → px u → BX E u t → H.size ≤ H1.size → (∀ q : Nat, q < H.size → ¬ AX q → H1[q]? = H[q]?) → va_S A0 H0 H1 locs1 → H1[q9]? = some ce → ce.vm = .none → s.vm.findClass E = some ce.cls → vx_W p l e R s m args below meth c H1 locs1 (cells + mc) (slots + ms) Q (F0 m pc ls rest) q9)
    (kk : ∀ (r : UInt64) (u : S) (t : State) (H1 : Heap) (locs1 : List Loc), t.heap = H1 → s.vm.Alike t.vm → post r u → B u t → H.size ≤ H1.size → (∀ q : Nat, q < H.size → ¬ A1 q → H1[q]? = H[q]?) → va_S A0 H0 H1 locs1 → W p l e R s m args below meth c H1 locs1 (cells + mc) (slots + ms) Q (F0 m (pc + 3) ls (.double r :: rest))) : W p l e R s m args below meth c H locs cells slots Q (F0 m pc ls st0) := by
  intro T hT X
  rcases hr T hT X with ⟨v, st₀, t, T', L, h0, X', hL, e1, e2, ⟨⟨r, u, hv, hp, hb⟩, hF⟩, st⟩ | ⟨q, st₀, t, T', L, E, ce, h0, X', hL, e1, e2, ⟨u, hp, hb, hF⟩, hce, hcv, hcl, st⟩
  · cases hv
    obtain ⟨k1, k2, k3⟩ := vx_keep h0 e1 hS hA hf hL hF
    obtain ⟨t2, a1, b1⟩ := kk r u t T'.heap (locs ++ L) e1.symm (by rw [← e2]; exact X'.warmed.alike) hp hb k1 k2 k3 T' rfl X'
    exact ⟨t2, st t2 a1, b1⟩
  · obtain ⟨k1, k2, k3⟩ := vx_keep h0 e1 hS hAX hf hL hF
    obtain ⟨t2, a1, b1⟩ := kx E ce q u t T'.heap (locs ++ L) e1.symm (by rw [← e2]; exact X'.warmed.alike) hp hb k1 k2 k3 (by rw [e1]; exact hce) hcv hcl T' rfl X'
    exact ⟨t2, st.trans a1, b1⟩
theorem vx_callv {S SX : Type} {post : S → Prop} {px : SX → Prop} {B : S → State → Prop} {BX : String → SX → State → Prop} {AX : Nat → Prop} (hr : vx_Run p l e R s m args below meth c H locs cells slots mc ms (F0 m pc ls st0) rest (va_Qv post B A1 a) (vx_X px BX AX) free) (hS : va_S A0 H0 H locs) (hA : ∀ q, q < H.size → A1 q → A0 q) (hf : ∀ q, free q → A0 q) (hAX : ∀ q, q < H.size → AX q → A0 q)
    (kx : ∀ (E : String) (ce : Cell) (q9 : Addr) (u : SX) (t : State) (H1 : Heap) (locs1 : List Loc), t.heap = H1 → s.vm.Alike t.vm → px u → BX E u t → H.size ≤ H1.size → (∀ q : Nat, q < H.size → ¬ AX q → H1[q]? = H[q]?) → va_S A0 H0 H1 locs1 → H1[q9]? = some ce → ce.vm = .none → s.vm.findClass E = some ce.cls → vx_W p l e R s m args below meth c H1 locs1 (cells + mc) (slots + ms) Q (F0 m pc ls rest) q9)
    (kk : ∀ (u : S) (t : State) (H1 : Heap) (locs1 : List Loc), t.heap = H1 → s.vm.Alike t.vm → post u → B u t → H.size ≤ H1.size → (∀ q : Nat, q < H.size → ¬ A1 q → H1[q]? = H[q]?) → va_S A0 H0 H1 locs1 → W p l e R s m args below meth c H1 locs1 (cells + mc) (slots + ms) Q (F0 m (pc + 3) ls (rest))) : W p l e R s m args below meth c H locs cells slots Q (F0 m pc ls st0) := by
  intro T hT X
  rcases hr T hT X with ⟨v, st₀, t, T', L, h0, X', hL, e1, e2, ⟨⟨u, hv, hp, hb⟩, hF⟩, st⟩ | ⟨q, st₀, t, T', L, E, ce, h0, X', hL, e1, e2, ⟨u, hp, hb, hF⟩, hce, hcv, hcl, st⟩
  · cases hv
    obtain ⟨k1, k2, k3⟩ := vx_keep h0 e1 hS hA hf hL hF
    obtain ⟨t2, a1, b1⟩ := kk u t T'.heap (locs ++ L) e1.symm (by rw [← e2]; exact X'.warmed.alike) hp hb k1 k2 k3 T' rfl X'
    exact ⟨t2, st t2 a1, b1⟩
  · obtain ⟨k1, k2, k3⟩ := vx_keep h0 e1 hS hAX hf hL hF
    obtain ⟨t2, a1, b1⟩ := kx E ce q u t T'.heap (locs ++ L) e1.symm (by rw [← e2]; exact X'.warmed.alike) hp hb k1 k2 k3 (by rw [e1]; exact hce) hcv hcl T' rfl X'
    exact ⟨t2, st.trans a1, b1⟩
/-- caught by the row x of this method's table; the rows ahead don't take it -/
theorem vx_catch {own name : String} {E : String} {ce : Cell} {q : Addr} (hown : s.vm.findClass own = some m.cls) (pre : List ExceptionTableEntry) (x : ExceptionTableEntry) (suf : List ExceptionTableEntry) (hsplit : c.exceptionTable.toList = pre ++ x :: suf)
    (hpass : ∀ z ∈ pre, covers z pc = false ∨ (z.catchType ≠ 0 ∧ ∃ nm : String, (Cond.classLink own z.catchType nm).before args s = true ∧ va_Nc E nm s)) (hx : covers x pc = true) (h0 : x.catchType ≠ 0)
    (hlink : (Cond.classLink own x.catchType name).before args s = true) (hcast : (Cond.castable E name).before args s = true) (hcell : H[q]? = some ce) (hv : ce.vm = .none) (hcl : s.vm.findClass E = some ce.cls)
    (kk : W p l e R s m args below meth c H locs cells slots Q (F0 m x.handlerPc ls [.ref q])) : vx_W p l e R s m args below meth c H locs cells slots Q (F0 m pc ls rest) q := by
  intro T hT X
  have hpl : e.platform.magicAccessors = ({} : Platform).magicAccessors := by rw [X.admits.platform]
  obtain ⟨c3, c4, hc3, hc4, hasg⟩ := Cond.castable_spec hcast
  cases Option.some.inj (hc3.symm.trans hcl)
  obtain ⟨c5, hc5, hcl5⟩ := Cond.classLink_spec hown hlink e.platform hpl
  cases Option.some.inj (hc4.symm.trans hc5)
  obtain ⟨vm', X', st⟩ := X.thenCaughtThrough q (g := F0 m pc ls rest) rfl (Steps.refl _) (by rw [hT]; exact hcell) (by rw [hv]; rfl) (by obtain ⟨k9, h9, -⟩ := Vm.findClass_spec hcl; exact ⟨k9, h9⟩) pre x suf hsplit
    (fun z hz => by
      rcases hpass z hz with h | ⟨hz0, nm, hl1, hn1⟩
      · exact Or.inl h
      · obtain ⟨c6, hc6, hcl6⟩ := Cond.classLink_spec hown hl1 e.platform hpl
        obtain ⟨a8, b8, h1, h2, h3⟩ := hn1
        cases Option.some.inj (h1.symm.trans hcl)
        cases Option.some.inj (h2.symm.trans hc6)
        exact Or.inr ⟨hz0, _, hcl6, h3⟩) hx (Or.inr ⟨h0, c4, hcl5, hasg⟩)
  obtain ⟨t, a1, b1⟩ := kk (T.setVm vm') hT X'
  exact ⟨t, st.trans a1, b1⟩
end Rows
section Ends
variable {p : Program} {l : Launch} {e : Env} {R : Room} {s : State} {m : MethodId} {args : Array Value} {below : List Frame} {meth : Method} {c : Code} {H : Heap} {locs : List Loc} {cells slots : Nat} {Q : State → Prop}
variable {mc ms : Nat} {free : Addr → Prop} {A0 A1 : Nat → Prop} {H0 : Heap} {a : Array Value} {ls : Array Slot} {st0 rest : List Value}
variable {Qc : Array Value → State → Outcome → State → Prop} {XC : String → State → State → Prop}
/-- what a body that may throw owes at its end -/
def vx_MQ (below : List Frame) (Qc : Array Value → State → Outcome → State → Prop) (XC : String → State → State → Prop) (a : Array Value) (s : State) (mc ms : Nat) (free : Addr → Prop) : State → Prop := fun t =>
  ∃ o, t.status = .running ∧ Ended t below o ∧ vx_Q Qc XC mc ms free a s o t
theorem vx_ret {g : JFrame} {mc ms : Nat} (k : W p l e R s m args below meth c H locs cells slots (MQ below Qc args s mc ms free) g) : W p l e R s m args below meth c H locs cells slots (vx_MQ below Qc XC args s mc ms free) g := by
  intro T hT X
  obtain ⟨t, a1, o, b1, b2, b3, b4⟩ := k T hT X
  exact ⟨t, a1, o, b1, b2, Or.inl ⟨b3, b4⟩⟩
/-- not caught here: it goes on to the caller -/
theorem vx_widen {g : JFrame} {q : Addr} {k n : Nat} (h1 : cells ≤ k) (h2 : slots ≤ n) (kk : vx_W p l e R s m args below meth c H locs k n Q g q) : vx_W p l e R s m args below meth c H locs cells slots Q g q := fun T hT X => kk T hT (stand_widen X h1 h2)
theorem vx_out {pc : Nat} {E : String} {ce : Cell} {q : Addr} {mc ms : Nat} (hout : ∀ x ∈ c.exceptionTable.toList, covers x pc = false) (hlocks : meth.locks = false) (hcell : H[q]? = some ce) (hv : ce.vm = .none) (hcl : s.vm.findClass E = some ce.cls)
    (hx : ∀ t : State, t.heap = H → s.vm.Alike t.vm → XC E s t) (hf : ∀ z ∈ locs, free z.base) (hc : cells ≤ mc) (hs : slots ≤ ms) :
    vx_W p l e R s m args below meth c H locs cells slots (vx_MQ below Qc XC args s mc ms free) (F0 m pc ls rest) q := by
  intro T hT X
  obtain ⟨st1, hrun, hend, hW, hsm⟩ := X.leaveThrown q (g := F0 m pc ls rest) rfl rfl rfl hout hlocks
  have hcell9 : (T.setFrames (.throwing q :: below)).heap[q]? = some ce := by
    show T.heap[q]? = some ce
    rw [hT]; exact hcell
  exact ⟨_, st1, .threw q, hrun, hend, Or.inr ⟨q, rfl, E, ce, locs, hx _ hT hW.alike, hcell9, hv, hcl, hW, hsm.mono hc hs, hf⟩⟩
theorem vx_frame {U : State} {k n : Nat} (h : s.sameButNew ({ U with vm := s.vm } : State) locs k n) : s.heap.size ≤ U.heap.size ∧ ∀ q : Nat, q < s.heap.size → (∀ z ∈ locs, z.base ≠ q) → U.heap[q]? = s.heap[q]? := by
  obtain ⟨-, h2, -, -, -, h6⟩ := h
  refine ⟨h2, fun q hq hz => ?_⟩
  obtain ⟨c9, e1, e2, e3, e4⟩ := h6 q _ (Array.getElem?_eq_getElem hq)
  have hs : c9.slots = (s.heap[q]).slots := Array.ext_getElem? fun i => e4 i fun hm => hz _ hm rfl
  have h9 : c9 = s.heap[q] := by
    rw [hs] at e2
    exact e2
  have e5 : U.heap[q]? = some c9 := e1
  rw [e5, h9, Array.getElem?_eq_getElem hq]
/-- the words of a throw but the four that speak of the heap -/
def vx_no (w : Cond) : Bool := decide (w ≠ .isRef (.static Bundle.tN "UNASSIGNED_STACK" Bundle.steD)) && decide (w ≠ .isRef (.static Bundle.tN "SUPPRESSED_SENTINEL" Bundle.listD)) && decide (w ≠ .laysStatic Bundle.tN "UNASSIGNED_STACK" Bundle.steD) && decide (w ≠ .laysStatic Bundle.tN "SUPPRESSED_SENTINEL" Bundle.listD)
def vx_at0 (own : String) (ic : Nat) (X : String) (names : List String) : List Cond := (Bundle.ownAtoms0 own ic X names).filter vx_no
def vx_atS (own : String) (ic : Nat) (X : String) (names : List String) : List Cond := (Bundle.ownAtoms own ic X names).filter vx_no
/-- a word that the tables alone decide, or a good one -/
def vx_ot (w : Cond) : Bool := w.onTables || goodWord w
theorem vx_ot_at {args a' : Array Value} {s U : State} {w : Cond} (hW : s.WarmedH U.vm) (hvm : s.vm = U.vm) (hg : vx_ot w = true) (h : w.before args s = true) : w.before a' U = true := by
  simp only [vx_ot, Bool.or_eq_true] at hg
  rcases hg with hg | hg
  · exact va_tabs hg hvm h
  · exact word_at hW (good_of_word hg) h
/-- a list's words: the good ones out of the method's own list, the others by premises of their own -/
theorem vx_hat {args : Array Value} {s : State} {L B : List Cond} (h1 : ∀ w ∈ L.filter goodWord, w.before args s = true) (h2 : ∀ w ∈ L.filter (fun w => !goodWord w), w ∈ B) (h3 : ∀ w ∈ B, w.before args s = true) : ∀ w ∈ L, w.before args s = true := by
  intro w hw
  by_cases g : goodWord w = true
  · exact h1 w (List.mem_filter.mpr ⟨hw, g⟩)
  · refine h3 w (h2 w (List.mem_filter.mpr ⟨hw, ?_⟩))
    show (!goodWord w) = true
    cases hgw : goodWord w
    · rfl
    · exact absurd hgw g
theorem vx_c {args : Array Value} {s : State} {w : Cond} {B : List Cond} (h : w.before args s = true) (t : ∀ w ∈ B, w.before args s = true) : ∀ w' ∈ w :: B, w'.before args s = true := fun w' h' => (List.mem_cons.mp h').elim (fun e => by rw [e]; exact h) (t w')
theorem vx_n {args : Array Value} {s : State} : ∀ w ∈ ([] : List Cond), w.before args s = true := fun _ h => nomatch h
theorem vx_own {args : Array Value} {s : State} {L : List Cond} (h1 : ∀ w ∈ L.filter vx_no, w.before args s = true)
    (hU : (Cond.isRef (.static Bundle.tN "UNASSIGNED_STACK" Bundle.steD)).before args s = true) (hN : (Cond.isRef (.static Bundle.tN "SUPPRESSED_SENTINEL" Bundle.listD)).before args s = true)
    (lU : (Cond.laysStatic Bundle.tN "UNASSIGNED_STACK" Bundle.steD).before args s = true) (lN : (Cond.laysStatic Bundle.tN "SUPPRESSED_SENTINEL" Bundle.listD).before args s = true) : ∀ w ∈ L, w.before args s = true := by
  intro w hw
  by_cases e1 : w = .isRef (.static Bundle.tN "UNASSIGNED_STACK" Bundle.steD)
  · rw [e1]; exact hU
  · by_cases e2 : w = .isRef (.static Bundle.tN "SUPPRESSED_SENTINEL" Bundle.listD)
    · rw [e2]; exact hN
    · by_cases e3 : w = .laysStatic Bundle.tN "UNASSIGNED_STACK" Bundle.steD
      · rw [e3]; exact lU
      · by_cases e4 : w = .laysStatic Bundle.tN "SUPPRESSED_SENTINEL" Bundle.listD
        · rw [e4]; exact lN
        · exact h1 w (List.mem_filter.mpr ⟨hw, by unfold vx_no; rw [decide_eq_true e1, decide_eq_true e2, decide_eq_true e3, decide_eq_true e4]; rfl⟩)
/-- where a static field lies, its class's statics cell in H -/
def vx_L (C n d : String) (A : Nat → Prop) (U : State) (H : Heap) : Prop := ∃ (c : ClassId) (k : Class) (i : Nat) (f : Field) (a : Nat) (cell : Cell), U.vm.findClass C = some c ∧ U.fieldFound? C n d = some (c, k, i, f) ∧ f.isStatic = true ∧ k.statics = some a ∧ H[a]? = some cell ∧ cell.vm.isStatics = true ∧ cell.cls = c ∧ f.slot < cell.slots.size ∧ k.staticTypes[f.slot]? = some f.type ∧ ¬ A a
theorem vx_L.moved {C n d : String} {A : Nat → Prop} {u U : State} {H : Heap} (hvm : u.vm.Alike U.vm) (h : vx_L C n d A u H) : vx_L C n d A U H := by
  obtain ⟨c, k, i, f, a, cell, h1, h2, h3, h4, h5, h6, h7, h8, h9, h10⟩ := h
  obtain ⟨k', hi', he⟩ := State.fieldFound?_setVm hvm h2
  exact ⟨c, k', i, f, a, cell, by rw [hvm.findClass]; exact h1, hi', h3, by rw [he]; exact h4, h5, h6, h7, h8, by rw [he]; exact h9, h10⟩
theorem vx_L.kept {C n d : String} {A : Nat → Prop} {U : State} {H H1 : Heap} (h : vx_L C n d A U H) (hq : ∀ a : Nat, a < H.size → ¬ A a → H1[a]? = H[a]?) : vx_L C n d A U H1 := by
  obtain ⟨c, k, i, f, a, cell, h1, h2, h3, h4, h5, h6, h7, h8, h9, h10⟩ := h
  exact ⟨c, k, i, f, a, cell, h1, h2, h3, h4, by rw [hq a (Array.getElem?_eq_some_iff.mp h5).1 h10]; exact h5, h6, h7, h8, h9, h10⟩
theorem vx_L.narrow {C n d : String} {A B : Nat → Prop} {U : State} {H : Heap} (h : vx_L C n d A U H) (hAB : ∀ q, B q → A q) : vx_L C n d B U H := by
  obtain ⟨c, k, i, f, a, cell, h1, h2, h3, h4, h5, h6, h7, h8, h9, h10⟩ := h
  exact ⟨c, k, i, f, a, cell, h1, h2, h3, h4, h5, h6, h7, h8, h9, fun z => h10 (hAB _ z)⟩
theorem vx_L.word {C n d : String} {A : Nat → Prop} {s : State} {args : Array Value} (h : vx_L C n d A s s.heap) : (Cond.laysStatic C n d).before args s = true := by
  obtain ⟨c, k, i, f, a, cell, h1, h2, h3, h4, h5, h6, h7, h8, h9, -⟩ := h
  show (Cond.laysStatic C n d).holds args s none s [] = true
  exact Cond.laysStatic_of h1 h2 h3 h4 h5 h6 h7 h8 h9
/-- .. and what it holds: null or some reference -/
def vx_Zq (C n d : String) (A : Nat → Prop) (U : State) (H : Heap) : Prop := va_Zq C n d A U H ∧ vx_L C n d A U H
theorem vx_Zq.moved {C n d : String} {A : Nat → Prop} {u U : State} {H : Heap} (hvm : u.vm.Alike U.vm) (h : vx_Zq C n d A u H) : vx_Zq C n d A U H := ⟨va_Zq.moved hvm h.1, vx_L.moved hvm h.2⟩
theorem vx_Zq.kept {C n d : String} {A : Nat → Prop} {U : State} {H H1 : Heap} (h : vx_Zq C n d A U H) (hq : ∀ a : Nat, a < H.size → ¬ A a → H1[a]? = H[a]?) : vx_Zq C n d A U H1 := ⟨va_Zq.kept h.1 hq, vx_L.kept h.2 hq⟩
theorem vx_Zq.narrow {C n d : String} {A B : Nat → Prop} {U : State} {H : Heap} (h : vx_Zq C n d A U H) (hAB : ∀ q, B q → A q) : vx_Zq C n d B U H := ⟨va_Zq.narrow h.1 hAB, vx_L.narrow h.2 hAB⟩
theorem vx_Zqof {args : Array Value} {s : State} {C n d : String} {A : Nat → Prop} (hl : (Cond.laysStatic C n d).before args s = true) (hini : (Cond.initialized C).before args s = true) (h : (Cond.isRef (.static C n d)).before args s = true) (hA : ∀ a : Nat, a < s.heap.size → ¬ A a) : vx_Zq C n d A s s.heap := by
  refine ⟨va_Zqof hl hini h hA, ?_⟩
  obtain ⟨c, k, i, f, a, cell, h1, h2, h3, h4, h5, h6, h7, h8, h9⟩ := Cond.laysStatic_spec hl
  exact ⟨c, k, i, f, a, cell, h1, h2, h3, h4, h5, h6, h7, h8, h9, hA a (Array.getElem?_eq_some_iff.mp h5).1⟩
theorem vx_isRef {C n d : String} {v : Value} {A : Nat → Prop} {s : State} {args : Array Value} (h : va_Z C n d v A s s.heap) (hv : v.isRef = true) : (Cond.isRef (.static C n d)).before args s = true := by
  obtain ⟨cf, kf, fi, f, a, cell, h1, h2, h3, h4, h5, h6, h7, -⟩ := h
  have he : (Term.static C n d).eval args s none [] s = some v := by
    simp [Term.eval, State.fieldNamed?, h1, h2, h4, h5, h6, h7]
  simp only [Cond.before, Cond.holds, Cond.value, he]
  cases v <;> simp_all [Value.isRef]
theorem vx_isRefq {C n d : String} {A : Nat → Prop} {s : State} {args : Array Value} (h : va_Zq C n d A s s.heap) : (Cond.isRef (.static C n d)).before args s = true := by
  rcases h with h | ⟨t, h⟩
  · exact vx_isRef h rfl
  · exact vx_isRef h rfl
/-- the same frame, seen from here: as if the method were called anew in this heap -/
theorem vx_rebase {T : State} (X : Stand p l e R s m args below meth c T locs cells slots) {R' : Room} (hf : R'.frames ≤ R.frames) (hl : R'.locals ≤ R.locals) (hc : cells + R'.cells ≤ R.cells) (hs : slots + R'.slots ≤ R.slots) :
    Stand p l e R' ((T.setVm s.vm).setFrames (.invoking m args :: below)) m args below meth c T [] 0 0 := by
  have htop : (T.setVm s.vm).topJava?.isSome := X.here.top
  have hF : ((T.setVm s.vm).setFrames (.invoking m args :: below)).frames = .invoking m args :: below := State.frames_setFrames _ (State.cur_lt_of_top htop)
  obtain ⟨g₀, hg0⟩ := Option.isSome_iff_exists.mp htop
  obtain ⟨r, hr⟩ := State.topJava?_eq_some.mp hg0
  have hl9 : e.platform.stackLimits (T.setVm s.vm).me = e.platform.stackLimits s.me := X.limits
  have hb9 : (T.setVm s.vm).me.stackBytes = s.me.stackBytes := X.bytes
  refine ⟨X.admits, X.cas, X.clock, hF, ?_, X.hears, X.method, X.code, X.here, X.tail, X.warmed, ?_, ?_, ?_⟩
  · have h := X.room
    have hU : ((T.setVm s.vm).setFrames (.invoking m args :: below)).localsInUse = s.localsInUse := by
      rw [State.localsInUse_invoking hF (meth := meth) (c := c) X.method X.code, State.localsInUse_invoking X.frames X.method X.code]
    simp only [State.hasRoom, Bool.and_eq_true, decide_eq_true_eq] at h ⊢
    obtain ⟨⟨⟨⟨h1, h2, h3, h4, h5, h6⟩, h7⟩, h8⟩, h9⟩ := h
    rw [X.frames, List.length_cons] at h2 h3
    have q1 := X.heapSize
    have q2 := X.used
    simp only [hF, hU, List.length_cons, State.stackLimits_setFrames, State.stackBytes_setFrames, hl9, hb9]
    refine ⟨⟨⟨⟨by omega, by omega, by omega, by omega, by omega, h6⟩, ?_⟩, ?_⟩, X.book⟩
    · show T.heap.size + R'.cells ≤ e.platform.maxCells
      omega
    · show T.slotsUsed + R'.slots ≤ e.platform.maxSlots
      omega
  · rw [State.stackLimits_setFrames]; rfl
  · rw [State.stackBytes_setFrames]; rfl
  · refine ⟨?_, Nat.le_refl _, Nat.le_refl _, ?_, ?_, fun a c9 h9 => ⟨c9, h9, rfl, rfl, fun _ _ => rfl⟩⟩
    · obtain ⟨t, ht, -⟩ := State.frames_cons hr
      show T.setVm s.vm = { ((T.setVm s.vm).setFrames (.invoking m args :: below)).setFrames (T.setVm s.vm).frames with heap := T.heap, slotsUsed := T.slotsUsed }
      rw [State.setFrames_setFrames, State.setFrames_self ht]
      rfl
    · show T.slotsUsed = T.slotsUsed + ((T.heap.toList.drop T.heap.size).map (·.slots.size)).sum
      rw [List.drop_eq_nil_of_le (Nat.le_of_eq Array.length_toList)]
      rfl
    · show ((T.heap.toList.drop T.heap.size).map (·.slots.size)).sum ≤ 0
      rw [List.drop_eq_nil_of_le (Nat.le_of_eq Array.length_toList)]
      exact Nat.le_refl _
/-- 'throw new E()': new; dup; invokespecial; athrow -/
theorem vx_throw0 {cc : ByteArray} {pc : Nat} (hexec : p.tables.exec = Jvm.exec) (hb : c.code = cc) (hl : l.stackTraces = false) {own cls : String} {names : List String} {ik ic mc ms : Nat} {A : Nat → Prop}
    (hown : s.vm.findClass own = some m.cls) (hcls : Bundle.fit cls = true) (hnames : ∀ n ∈ names, Bundle.fit n = true)
    (hk : (Cond.classLink own ik cls).before args s = true) (hini : (Cond.initialized cls).before args s = true) (hat : ∀ w ∈ vx_at0 own ic cls names, w.before args s = true)
    (hgood : ∀ w ∈ Cond.classLink own ik cls :: Cond.initialized cls :: vx_at0 own ic cls names, vx_ot w = true)
    (hU : vx_Zq Bundle.tN "UNASSIGNED_STACK" Bundle.steD A s s.heap) (hN : vx_Zq Bundle.tN "SUPPRESSED_SENTINEL" Bundle.listD A s s.heap) (hS : va_S A s.heap H locs) (hsize : ls.size = c.maxLocals)
    (d0 : decode cc pc = .ok (.new ik, 3)) (d3 : decode cc (pc + 3) = .ok (.dup, 1)) (d4 : decode cc (pc + 4) = .ok (.invokespecial ic, 3)) (d7 : decode cc (pc + 7) = .ok (.athrow, 1))
    (hout : ∀ x ∈ c.exceptionTable.toList, covers x (pc + 7) = false)
    (hRframes : names.length + 3 < R.frames) (hRlocals : (rest.map fun v => v.category).sum + (13 * (names.length + 1) + 42) ≤ R.locals) (hRcells : cells + 1 ≤ R.cells) (hRslots : slots + 6 ≤ R.slots) (hlocks : meth.locks = false)
    (hx : ∀ t : State, s.vm.Alike t.vm → H.size ≤ t.heap.size → (∀ q : Nat, q < H.size → t.heap[q]? = H[q]?) → XC cls s t)
    (hf : ∀ z ∈ locs, free z.base) (hc : cells + 1 ≤ mc) (hs : slots + 6 ≤ ms) :
    W p l e R s m args below meth c H locs cells slots (vx_MQ below Qc XC args s mc ms free) (F0 m pc ls rest) := by
  intro T hT X
  have htr : e.platform.stackTraces = false := (show e.platform.stackTraces = l.stackTraces by rw [X.admits.platform]).trans hl
  have Y := vx_rebase X (R' := { frames := R.frames, locals := R.locals, cells := 1, slots := 6 }) (Nat.le_refl _) (Nat.le_refl _) hRcells hRslots
  obtain ⟨s', hA⟩ : ∃ z, z = (T.setVm s.vm).setFrames (.invoking m args :: below) := ⟨_, rfl⟩
  rw [← hA] at Y
  have hvm : s'.vm = s.vm := by rw [hA]; rfl
  have hhp : s'.heap = H := by rw [hA]; exact hT
  have hW0 : s.WarmedH s'.vm := by rw [hvm]; exact State.WarmedH.refl s
  have hat' : ∀ w ∈ vx_at0 own ic cls names, w.before args s' = true := fun w hw => vx_ot_at hW0 hvm.symm (hgood w (List.mem_cons_of_mem _ (List.mem_cons_of_mem _ hw))) (hat w hw)
  have hk' : (Cond.classLink own ik cls).before args s' = true := vx_ot_at hW0 hvm.symm (hgood _ List.mem_cons_self) hk
  have hini' : (Cond.initialized cls).before args s' = true := vx_ot_at hW0 hvm.symm (hgood _ (List.mem_cons_of_mem _ List.mem_cons_self)) hini
  have hU' : vx_Zq Bundle.tN "UNASSIGNED_STACK" Bundle.steD A s' s'.heap := by rw [hhp]; exact vx_Zq.moved hW0.alike (hU.kept hS.2.1)
  have hN' : vx_Zq Bundle.tN "SUPPRESSED_SENTINEL" Bundle.listD A s' s'.heap := by rw [hhp]; exact vx_Zq.moved hW0.alike (hN.kept hS.2.1)
  have h : ∀ w ∈ Bundle.ownAtoms0 own ic cls names, w.before args s' = true := vx_own hat' (vx_isRefq hU'.1) (vx_isRefq hN'.1) hU'.2.word hN'.2.word
  have hown' : s'.vm.findClass own = some m.cls := by rw [hvm]; exact hown
  have hins : (Cond.instantiable cls 6).before args s' = true := h _ (by simp [Bundle.ownAtoms0])
  obtain ⟨vm₁, cX, kX, hfX, hkX, -, -, X₁, st1⟩ := Y.newCold hexec (own := own) (C := cls) (index := ik) (n := 6) hown' hk' hins hini'
    (g := F0 m pc ls rest) rfl (by rw [hb]; exact d0) (Nat.le_refl _) (Nat.le_refl _)
  generalize hT1 : (T.setVm vm₁).pushCell { cls := cX, slots := kX.instanceTypes.map defaultValue, vm := .none } = T1 at X₁ st1
  have hcat : (Value.ref T.heap.size).category = 1 := rfl
  have hcellA : T1.heap[T.heap.size]? = some (freshCell cX kX) := by rw [← hT1]; exact State.heap_pushCell_size _ _
  have d3' : decode c.code (pc + 3) = .ok (.dup, 1) := by rw [hb]; exact d3
  obtain ⟨U, hsteps, hrun, hend, hW, hsame, ce, hce, hO⟩ := X₁.ctorThrow0 hexec htr (own := own) (cls := cls) (names := names) (ic := ic) hown' hcls hnames h (fun x hx => nomatch hx) hfX hkX hcellA (by rw [hhp, hT]; exact Nat.le_refl _)
    (g := { method := m, pc := pc + 4, locals := ls, stack := .ref T.heap.size :: .ref T.heap.size :: rest, locked := none }) rfl hsize rfl rfl (rest := rest) rfl
    (by rw [hb]; exact d4) (by rw [hb]; exact d7) hout hRframes (by simp only [List.map_cons, List.sum_cons, hcat]; omega) hlocks
  obtain ⟨f1, f2⟩ := vx_frame hsame
  rw [hhp] at f1 f2
  have hWs : s.WarmedH U.vm := State.WarmedH.trans hW0 hW
  have hcl : s.vm.findClass cls = some ce.cls := by
    have h9 := hO.cls
    rw [hvm] at h9
    exact h9
  have hall : s.sameButNew ({ U with vm := s.vm } : State) locs mc ms := by
    subst hA
    obtain ⟨e1, e2⟩ := hsame
    rw [State.setFrames_setFrames] at e1
    have h2 : (T.setVm s.vm).sameButNew ({ U with vm := s.vm } : State) [] (0 + 1) (0 + 6) := ⟨e1, e2⟩
    have h3 := X.same.trans h2
    rw [List.append_nil] at h3
    exact h3.mono hc hs
  refine ⟨U, ?_, .threw T.heap.size, hrun, hend, Or.inr ⟨T.heap.size, rfl, cls, ce, locs, hx U hWs.alike f1 (fun q hq => f2 q hq (fun z hz => nomatch hz)), hce, hO.vm, hcl, hWs, hall, hf⟩⟩
  refine st1 _ ?_
  show Steps p.tables e below (T1.setTop { method := m, pc := pc + 3, locals := ls, stack := .ref T.heap.size :: rest, locked := none }) _
  jvm_step X₁.here [X₁.here.top, hexec, d3', Value.category]
  exact hsteps
/-- 'throw new E("text")': new; dup; ldc; invokespecial; athrow -/
theorem vx_throwS {cc : ByteArray} {pc : Nat} (hexec : p.tables.exec = Jvm.exec) (hb : c.code = cc) (hl : l.stackTraces = false) {own cls text : String} {names : List String} {ik is ic mc ms sa : Nat} {A : Nat → Prop}
    (hown : s.vm.findClass own = some m.cls) (hcls : Bundle.fit cls = true) (hnames : ∀ n ∈ names, Bundle.fit n = true)
    (hk : (Cond.classLink own ik cls).before args s = true) (hini : (Cond.initialized cls).before args s = true) (hstr : vk_R own is text sa s) (hat : ∀ w ∈ vx_atS own ic cls names, w.before args s = true)
    (hgood : ∀ w ∈ Cond.classLink own ik cls :: Cond.initialized cls :: vx_atS own ic cls names, vx_ot w = true)
    (hU : vx_Zq Bundle.tN "UNASSIGNED_STACK" Bundle.steD A s s.heap) (hN : vx_Zq Bundle.tN "SUPPRESSED_SENTINEL" Bundle.listD A s s.heap) (hS : va_S A s.heap H locs) (hsize : ls.size = c.maxLocals)
    (d0 : decode cc pc = .ok (.new ik, 3)) (d3 : decode cc (pc + 3) = .ok (.dup, 1)) (d4 : decode cc (pc + 4) = .ok (.ldc is, 2)) (d6 : decode cc (pc + 6) = .ok (.invokespecial ic, 3)) (d9 : decode cc (pc + 9) = .ok (.athrow, 1))
    (hout : ∀ x ∈ c.exceptionTable.toList, covers x (pc + 9) = false)
    (hRframes : names.length + 3 < R.frames) (hRlocals : (rest.map fun v => v.category).sum + (13 * (names.length + 1) + 43) ≤ R.locals) (hRcells : cells + 1 ≤ R.cells) (hRslots : slots + 6 ≤ R.slots) (hlocks : meth.locks = false)
    (hx : ∀ t : State, s.vm.Alike t.vm → H.size ≤ t.heap.size → (∀ q : Nat, q < H.size → t.heap[q]? = H[q]?) → XC cls s t)
    (hf : ∀ z ∈ locs, free z.base) (hc : cells + 1 ≤ mc) (hs : slots + 6 ≤ ms) :
    W p l e R s m args below meth c H locs cells slots (vx_MQ below Qc XC args s mc ms free) (F0 m pc ls rest) := by
  intro T hT X
  have htr : e.platform.stackTraces = false := (show e.platform.stackTraces = l.stackTraces by rw [X.admits.platform]).trans hl
  have Y := vx_rebase X (R' := { frames := R.frames, locals := R.locals, cells := 1, slots := 6 }) (Nat.le_refl _) (Nat.le_refl _) hRcells hRslots
  obtain ⟨s', hA⟩ : ∃ z, z = (T.setVm s.vm).setFrames (.invoking m args :: below) := ⟨_, rfl⟩
  rw [← hA] at Y
  have hvm : s'.vm = s.vm := by rw [hA]; rfl
  have hhp : s'.heap = H := by rw [hA]; exact hT
  have hW0 : s.WarmedH s'.vm := by rw [hvm]; exact State.WarmedH.refl s
  have hat' : ∀ w ∈ vx_atS own ic cls names, w.before args s' = true := fun w hw => vx_ot_at hW0 hvm.symm (hgood w (List.mem_cons_of_mem _ (List.mem_cons_of_mem _ hw))) (hat w hw)
  have hk' : (Cond.classLink own ik cls).before args s' = true := vx_ot_at hW0 hvm.symm (hgood _ List.mem_cons_self) hk
  have hini' : (Cond.initialized cls).before args s' = true := vx_ot_at hW0 hvm.symm (hgood _ (List.mem_cons_of_mem _ List.mem_cons_self)) hini
  have hU' : vx_Zq Bundle.tN "UNASSIGNED_STACK" Bundle.steD A s' s'.heap := by rw [hhp]; exact vx_Zq.moved hW0.alike (hU.kept hS.2.1)
  have hN' : vx_Zq Bundle.tN "SUPPRESSED_SENTINEL" Bundle.listD A s' s'.heap := by rw [hhp]; exact vx_Zq.moved hW0.alike (hN.kept hS.2.1)
  have h : ∀ w ∈ Bundle.ownAtoms own ic cls names, w.before args s' = true := vx_own hat' (vx_isRefq hU'.1) (vx_isRefq hN'.1) hU'.2.word hN'.2.word
  have hown' : s'.vm.findClass own = some m.cls := by rw [hvm]; exact hown
  have hins : (Cond.instantiable cls 6).before args s' = true := h _ (by simp [Bundle.ownAtoms])
  obtain ⟨vm₁, cX, kX, hfX, hkX, -, -, X₁, st1⟩ := Y.newCold hexec (own := own) (C := cls) (index := ik) (n := 6) hown' hk' hins hini'
    (g := F0 m pc ls rest) rfl (by rw [hb]; exact d0) (Nat.le_refl _) (Nat.le_refl _)
  generalize hT1 : (T.setVm vm₁).pushCell { cls := cX, slots := kX.instanceTypes.map defaultValue, vm := .none } = T1 at X₁ st1
  have hcat : (Value.ref T.heap.size).category = 1 := rfl
  have hcellA : T1.heap[T.heap.size]? = some (freshCell cX kX) := by rw [← hT1]; exact State.heap_pushCell_size _ _
  have d3' : decode c.code (pc + 3) = .ok (.dup, 1) := by rw [hb]; exact d3
  have d4' : decode c.code (pc + 4) = .ok (.ldc is, 2) := by rw [hb]; exact d4
  have hstr' : vk_R own is text sa s' := vk_R.warm hW0 hstr
  obtain ⟨U, hsteps, hrun, hend, hW, hsame, ce, hce, hO⟩ := X₁.ctorThrowS hexec htr (own := own) (cls := cls) (names := names) (ic := ic) hown' hcls hnames h (fun x hx => nomatch hx) hfX hkX hcellA (by rw [hhp, hT]; exact Nat.le_refl _) (msg := .ref sa) rfl
    (g := { method := m, pc := pc + 6, locals := ls, stack := .ref sa :: .ref T.heap.size :: .ref T.heap.size :: rest, locked := none }) rfl hsize rfl rfl (rest := rest) rfl
    (by rw [hb]; exact d6) (by rw [hb]; exact d9) hout hRframes (by simp only [List.map_cons, List.sum_cons, hcat]; omega) hlocks
  obtain ⟨f1, f2⟩ := vx_frame hsame
  rw [hhp] at f1 f2
  have hWs : s.WarmedH U.vm := State.WarmedH.trans hW0 hW
  have hcl : s.vm.findClass cls = some ce.cls := by
    have h9 := hO.cls
    rw [hvm] at h9
    exact h9
  have hall : s.sameButNew ({ U with vm := s.vm } : State) locs mc ms := by
    subst hA
    obtain ⟨e1, e2⟩ := hsame
    rw [State.setFrames_setFrames] at e1
    have h2 : (T.setVm s.vm).sameButNew ({ U with vm := s.vm } : State) [] (0 + 1) (0 + 6) := ⟨e1, e2⟩
    have h3 := X.same.trans h2
    rw [List.append_nil] at h3
    exact h3.mono hc hs
  refine ⟨U, ?_, .threw T.heap.size, hrun, hend, Or.inr ⟨T.heap.size, rfl, cls, ce, locs, hx U hWs.alike f1 (fun q hq => f2 q hq (fun z hz => nomatch hz)), hce, hO.vm, hcl, hWs, hall, hf⟩⟩
  refine st1 _ ?_
  show Steps p.tables e below (T1.setTop { method := m, pc := pc + 3, locals := ls, stack := .ref T.heap.size :: rest, locked := none }) _
  jvm_step X₁.here [X₁.here.top, hexec, d3', Value.category]
  exact X₁.ldcString hexec (own := own) (text := text) (index := is) (a := sa) hown' hstr'.1 hstr'.2
    (g := { method := m, pc := pc + 4, locals := ls, stack := .ref T.heap.size :: .ref T.heap.size :: rest, locked := none }) rfl d4' _ hsteps
/-- 'throw new E("text")', the text by a wide index -/
theorem vx_throwSW {cc : ByteArray} {pc : Nat} (hexec : p.tables.exec = Jvm.exec) (hb : c.code = cc) (hl : l.stackTraces = false) {own cls text : String} {names : List String} {ik is ic mc ms sa : Nat} {A : Nat → Prop}
    (hown : s.vm.findClass own = some m.cls) (hcls : Bundle.fit cls = true) (hnames : ∀ n ∈ names, Bundle.fit n = true)
    (hk : (Cond.classLink own ik cls).before args s = true) (hini : (Cond.initialized cls).before args s = true) (hstr : vk_R own is text sa s) (hat : ∀ w ∈ vx_atS own ic cls names, w.before args s = true)
    (hgood : ∀ w ∈ Cond.classLink own ik cls :: Cond.initialized cls :: vx_atS own ic cls names, vx_ot w = true)
    (hU : vx_Zq Bundle.tN "UNASSIGNED_STACK" Bundle.steD A s s.heap) (hN : vx_Zq Bundle.tN "SUPPRESSED_SENTINEL" Bundle.listD A s s.heap) (hS : va_S A s.heap H locs) (hsize : ls.size = c.maxLocals)
    (d0 : decode cc pc = .ok (.new ik, 3)) (d3 : decode cc (pc + 3) = .ok (.dup, 1)) (d4 : decode cc (pc + 4) = .ok (.ldc_w is, 3)) (d7 : decode cc (pc + 7) = .ok (.invokespecial ic, 3)) (d10 : decode cc (pc + 10) = .ok (.athrow, 1))
    (hout : ∀ x ∈ c.exceptionTable.toList, covers x (pc + 10) = false)
    (hRframes : names.length + 3 < R.frames) (hRlocals : (rest.map fun v => v.category).sum + (13 * (names.length + 1) + 43) ≤ R.locals) (hRcells : cells + 1 ≤ R.cells) (hRslots : slots + 6 ≤ R.slots) (hlocks : meth.locks = false)
    (hx : ∀ t : State, s.vm.Alike t.vm → H.size ≤ t.heap.size → (∀ q : Nat, q < H.size → t.heap[q]? = H[q]?) → XC cls s t)
    (hf : ∀ z ∈ locs, free z.base) (hc : cells + 1 ≤ mc) (hs : slots + 6 ≤ ms) :
    W p l e R s m args below meth c H locs cells slots (vx_MQ below Qc XC args s mc ms free) (F0 m pc ls rest) := by
  intro T hT X
  have htr : e.platform.stackTraces = false := (show e.platform.stackTraces = l.stackTraces by rw [X.admits.platform]).trans hl
  have Y := vx_rebase X (R' := { frames := R.frames, locals := R.locals, cells := 1, slots := 6 }) (Nat.le_refl _) (Nat.le_refl _) hRcells hRslots
  obtain ⟨s', hA⟩ : ∃ z, z = (T.setVm s.vm).setFrames (.invoking m args :: below) := ⟨_, rfl⟩
  rw [← hA] at Y
  have hvm : s'.vm = s.vm := by rw [hA]; rfl
  have hhp : s'.heap = H := by rw [hA]; exact hT
  have hW0 : s.WarmedH s'.vm := by rw [hvm]; exact State.WarmedH.refl s
  have hat' : ∀ w ∈ vx_atS own ic cls names, w.before args s' = true := fun w hw => vx_ot_at hW0 hvm.symm (hgood w (List.mem_cons_of_mem _ (List.mem_cons_of_mem _ hw))) (hat w hw)
  have hk' : (Cond.classLink own ik cls).before args s' = true := vx_ot_at hW0 hvm.symm (hgood _ List.mem_cons_self) hk
  have hini' : (Cond.initialized cls).before args s' = true := vx_ot_at hW0 hvm.symm (hgood _ (List.mem_cons_of_mem _ List.mem_cons_self)) hini
  have hU' : vx_Zq Bundle.tN "UNASSIGNED_STACK" Bundle.steD A s' s'.heap := by rw [hhp]; exact vx_Zq.moved hW0.alike (hU.kept hS.2.1)
  have hN' : vx_Zq Bundle.tN "SUPPRESSED_SENTINEL" Bundle.listD A s' s'.heap := by rw [hhp]; exact vx_Zq.moved hW0.alike (hN.kept hS.2.1)
  have h : ∀ w ∈ Bundle.ownAtoms own ic cls names, w.before args s' = true := vx_own hat' (vx_isRefq hU'.1) (vx_isRefq hN'.1) hU'.2.word hN'.2.word
  have hown' : s'.vm.findClass own = some m.cls := by rw [hvm]; exact hown
  have hins : (Cond.instantiable cls 6).before args s' = true := h _ (by simp [Bundle.ownAtoms])
  obtain ⟨vm₁, cX, kX, hfX, hkX, -, -, X₁, st1⟩ := Y.newCold hexec (own := own) (C := cls) (index := ik) (n := 6) hown' hk' hins hini'
    (g := F0 m pc ls rest) rfl (by rw [hb]; exact d0) (Nat.le_refl _) (Nat.le_refl _)
  generalize hT1 : (T.setVm vm₁).pushCell { cls := cX, slots := kX.instanceTypes.map defaultValue, vm := .none } = T1 at X₁ st1
  have hcat : (Value.ref T.heap.size).category = 1 := rfl
  have hcellA : T1.heap[T.heap.size]? = some (freshCell cX kX) := by rw [← hT1]; exact State.heap_pushCell_size _ _
  have d3' : decode c.code (pc + 3) = .ok (.dup, 1) := by rw [hb]; exact d3
  have d4' : decode c.code (pc + 4) = .ok (.ldc_w is, 3) := by rw [hb]; exact d4
  have hstr' : vk_R own is text sa s' := vk_R.warm hW0 hstr
  obtain ⟨U, hsteps, hrun, hend, hW, hsame, ce, hce, hO⟩ := X₁.ctorThrowS hexec htr (own := own) (cls := cls) (names := names) (ic := ic) hown' hcls hnames h (fun x hx => nomatch hx) hfX hkX hcellA (by rw [hhp, hT]; exact Nat.le_refl _) (msg := .ref sa) rfl
    (g := { method := m, pc := pc + 7, locals := ls, stack := .ref sa :: .ref T.heap.size :: .ref T.heap.size :: rest, locked := none }) rfl hsize rfl rfl (rest := rest) rfl
    (by rw [hb]; exact d7) (by rw [hb]; exact d10) hout hRframes (by simp only [List.map_cons, List.sum_cons, hcat]; omega) hlocks
  obtain ⟨f1, f2⟩ := vx_frame hsame
  rw [hhp] at f1 f2
  have hWs : s.WarmedH U.vm := State.WarmedH.trans hW0 hW
  have hcl : s.vm.findClass cls = some ce.cls := by
    have h9 := hO.cls
    rw [hvm] at h9
    exact h9
  have hall : s.sameButNew ({ U with vm := s.vm } : State) locs mc ms := by
    subst hA
    obtain ⟨e1, e2⟩ := hsame
    rw [State.setFrames_setFrames] at e1
    have h2 : (T.setVm s.vm).sameButNew ({ U with vm := s.vm } : State) [] (0 + 1) (0 + 6) := ⟨e1, e2⟩
    have h3 := X.same.trans h2
    rw [List.append_nil] at h3
    exact h3.mono hc hs
  refine ⟨U, ?_, .threw T.heap.size, hrun, hend, Or.inr ⟨T.heap.size, rfl, cls, ce, locs, hx U hWs.alike f1 (fun q hq => f2 q hq (fun z hz => nomatch hz)), hce, hO.vm, hcl, hWs, hall, hf⟩⟩
  refine st1 _ ?_
  show Steps p.tables e below (T1.setTop { method := m, pc := pc + 3, locals := ls, stack := .ref T.heap.size :: rest, locked := none }) _
  jvm_step X₁.here [X₁.here.top, hexec, d3', Value.category]
  exact X₁.ldcStringW hexec (own := own) (text := text) (index := is) (a := sa) hown' hstr'.1 hstr'.2
    (g := { method := m, pc := pc + 4, locals := ls, stack := .ref T.heap.size :: .ref T.heap.size :: rest, locked := none }) rfl d4' _ hsteps
end Ends
section Bodies
variable {l : Launch}
theorem vx_ofW {y : MethodName} {ws ws' : List Cond} {rm : Room} {Pc : Array Value → State → Prop} {Qc : Array Value → State → Outcome → State → Prop} {XC : String → State → State → Prop} {mc ms : Nat} {free : Addr → Prop} {cc : ByteArray} {maxL : Nat} {ret : Option FieldType}
    (hy : plainName y.cls = true) (hw : ws = Cond.code y cc maxL ret :: ws')
    (body : ∀ p e s m args below meth c s₁, BodyLoose p l y (headSpec ws rm) cc maxL ret e s m args below meth c s₁ → c.maxLocals = maxL → (∀ x ∈ c.exceptionTable.toList, False) → Pc args s →
      W p l e (headSpec ws rm).room s m args below meth c s.heap [] 0 0 (vx_MQ below Qc XC args s mc ms free) (entryFrame m args maxL)) : vx_Met l y ws rm Pc Qc XC mc ms free := by
  refine MetFree.of_bodyS (code := cc) (maxLocals := maxL) (ret := ret) hy ?_ ?_
  · intro args s m h hn
    obtain ⟨meth, c, h1, h2, h3, h4, h5, h6, -, -⟩ := Cond.code_spec hn (atoms_spec (ws := ws) h _ (by rw [hw]; exact List.mem_cons_self))
    exact ⟨meth, c, h1, h2, h3, h4, h5, h6⟩
  · intro p e s m args below meth c s₁ B hml hP _
    have hh0 : s₁.heap = s.heap := by rw [B.state]; rfl
    have ht : ∀ x ∈ c.exceptionTable.toList, False := by
      obtain ⟨meth9, c9, h1, h2, -, -, -, -, h7, -⟩ := Cond.code_spec B.named (atoms_spec (ws := ws) B.pre _ (by rw [hw]; exact List.mem_cons_self))
      cases Option.some.inj (h1.symm.trans B.method)
      cases Option.some.inj (h2.symm.trans (Stand.of_body B).code)
      intro x hx
      rw [Array.isEmpty_iff.mp h7] at hx
      cases hx
    obtain ⟨t, a1, o, b1, b2, b3⟩ := body p e s m args below meth c s₁ B hml ht hP s₁ hh0 (Stand.of_body B)
    exact ⟨t, o, a1, b1, b2, b3⟩
/-- the table of a body with handlers -/
theorem vx_table {p : Program} {x y : MethodName} {S : Spec} {cc bytes : ByteArray} {maxL maxL' : Nat} {ret ret' : Option FieldType} {e : Env} {s s₁ : State} {m : MethodId} {args : Array Value} {below : List Frame} {meth : Method} {c : Code} {hh : List (Nat × Nat × Nat × Nat)}
    (B : BodyLoose p l y S cc maxL ret e s m args below meth c s₁) (h : (Cond.codeWith y bytes maxL' ret' hh).before args s = true) : c.exceptionTable.toList = tableOf hh := by
  obtain ⟨m9, meth9, c9, hn9, h1, h2, -, -, h6, -⟩ := Cond.codeWith_spec h
  cases Option.some.inj (hn9.symm.trans B.named)
  cases Option.some.inj (h1.symm.trans B.method)
  cases Option.some.inj (h2.symm.trans (Stand.of_body B).code)
  rw [← h6, table_eq]
end Bodies
end VXA
/-! ===== END ===== -/
/-! ===== BEGIN a static call of a method with an exception table ===== -/
section VXS
variable {p : Program} {l : Launch} {e : Env} {R : Room} {s : State} {m : MethodId} {args : Array Value} {below : List Frame} {meth : Method} {c : Code} {T : State} {H : Heap} {locs : List Loc} {cells slots : Nat}
abbrev vx_CSW (R : Room) (s : State) (args : Array Value) (own : String) (index : Nat) (y : MethodName) (bytes : ByteArray) (maxL : Nat) (ret : Option FieldType) (hh : List (Nat × Nat × Nat × Nat)) (ws : List Cond) (rm : Room) (mc ms n : Nat) : Prop :=
  (rm.cells = mc ∧ rm.slots = ms ∧ rm.frames + 1 ≤ R.frames ∧ 8 + (maxL + 11) + rm.locals ≤ R.locals ∧ (∀ w ∈ ws, ∀ (a' : Array Value) (U : State), s.WarmedH U.vm → w.before a' U = true) ∧ Cond.codeWith y bytes maxL ret hh ∈ ws) ∧
  (Cond.codeWith y bytes maxL ret hh).before args s = true ∧ (Cond.initialized y.cls).before args s = true ∧ (y.cls ≠ "java/lang/invoke/MethodHandle" ∧ y.cls ≠ "java/lang/invoke/VarHandle") ∧
  (∀ sig, parseMethodDescriptor y.desc = some sig → n = sig.parameters.length) ∧ (Cond.methodLink own index y).before args s = true ∧ (Cond.static y).before args s = true
theorem vx_cwSW {own : String} {index maxL mc ms : Nat} {y : MethodName} {bytes : ByteArray} {ret : Option FieldType} {hh : List (Nat × Nat × Nat × Nat)} {Ts ws ws' : List Cond} {rm : Room} (n : Nat) (ht : ∀ w ∈ Ts, w.before args s = true) (hT : GoodIn Ts (va_wsS own index y ws)) (hw : ws = Cond.codeWith y bytes maxL ret hh :: ws') (hrc : rm.cells = mc) (hrs : rm.slots = ms)
    (hd : y.cls ≠ "java/lang/invoke/MethodHandle" ∧ y.cls ≠ "java/lang/invoke/VarHandle" ∧ (parseMethodDescriptor y.desc).map (fun d => d.parameters.length) = some n) (hR : rm.frames + 1 ≤ R.frames ∧ 8 + (maxL + 11) + rm.locals ≤ R.locals) :
    vx_CSW R s args own index y bytes maxL ret hh ws rm mc ms n := by
  have ok : ∀ w ∈ va_wsS own index y ws, w.before args s = true := fun w h => ht w (hT w h).1
  have hG : GoodIn Ts ws := fun w h => hT w (by unfold va_wsS; exact List.mem_append_right _ h)
  have hc : Cond.codeWith y bytes maxL ret hh ∈ ws := by rw [hw]; exact List.mem_cons_self
  refine ⟨⟨hrc, hrs, hR.1, hR.2, pay_in ht hG, hc⟩, ht _ (hG _ hc).1, ok _ (by simp [va_wsS]), ⟨hd.1, hd.2.1⟩, fun sig h => ?_, ok _ (by simp [va_wsS]), ok _ (by simp [va_wsS])⟩
  have h2 := hd.2.2
  rw [h] at h2
  exact (Option.some.inj h2).symm
theorem vx_callSW (X : Stand p l e R s m args below meth c T locs cells slots) (hexec : p.tables.exec = Jvm.exec) {own : String} {index : Nat} {y : MethodName} {bytes : ByteArray} {maxL : Nat} {ret : Option FieldType} {hh : List (Nat × Nat × Nat × Nat)}
    (hown : s.vm.findClass own = some m.cls) (hlink : (Cond.methodLink own index y).before args s = true) (hstat : (Cond.static y).before args s = true) (hinit : (Cond.initialized y.cls).before args s = true)
    (hcode : (Cond.codeWith y bytes maxL ret hh).before args s = true) (hy : y.cls ≠ "java/lang/invoke/MethodHandle" ∧ y.cls ≠ "java/lang/invoke/VarHandle")
    {W9 : Nat} {Pre : Pt → Array Value → Prop} {Post : Pt → Array Value → Option Value → Pt → Prop} (hK : Back l R p e below s args y 3 W9 Pre Post)
    {g : JFrame} (hg : g.method = m) (hsize : g.locals.size = c.maxLocals) {argsL rest : List Value} (hlen : ∀ sig, parseMethodDescriptor y.desc = some sig → argsL.length = sig.parameters.length)
    (hstack : g.stack = argsL.reverse ++ rest) (hW : 2 * g.monitorRoom + (rest.map fun v => v.category).sum ≤ W9) (hdg : decode c.code g.pc = .ok (.invokestatic index, 3))
    (hpre : ∀ vm₁, s.WarmedH vm₁ → Pre ⟨T.setVm vm₁, locs, cells, slots⟩ argsL.toArray) :
    ∃ (v : Option Value) (vm₁ : Vm) (B : Pt), s.WarmedH vm₁ ∧ Stand p l e R s m args below meth c B.U B.locs B.cells B.slots ∧ Post ⟨T.setVm vm₁, locs, cells, slots⟩ argsL.toArray v B ∧
      ∀ target, Steps p.tables e below (B.U.setTop { g with pc := g.pc + 3, stack := v.toList ++ rest }) target → Steps p.tables e below (T.setTop g) target := by
  obtain ⟨mk, methM, cM, hnamed, hmethM, -, -, -, -, -, -, hsigM⟩ := Cond.codeWith_spec hcode
  have hstatic : methM.isStatic = true := Cond.static_spec hnamed hmethM hstat
  obtain ⟨kP, hkP, -⟩ := className_of_methodNamed hnamed
  have hinitP : kP.init = .initialized := Cond.initialized_spec (findClass_of_methodNamed hnamed) hkP hinit
  obtain ⟨vm₁, X₁, hstep₁⟩ := X.invokestatic hexec hown hlink hnamed hmethM hstatic hkP hinitP hy (g := g) hg (argsL := argsL) (rest := rest) (hlen _ hsigM) hstack hdg
  obtain ⟨v, B, X', hpost, hsteps⟩ := hK m meth c ⟨T.setVm vm₁, locs, cells, slots⟩ { g with stack := rest } (.invokestatic index) mk argsL.toArray X₁ hg hsize hdg hW (X₁.named hnamed) (hpre vm₁ X₁.warmed)
  exact ⟨v, vm₁, B, X₁.warmed, X', hpost, fun target h => hstep₁ _ fun acts => by rw [doInvoke_state]; exact hsteps.trans h⟩
theorem vx_runSW {y : MethodName} {bytes cc : ByteArray} {maxL nL mc ms n index : Nat} {ret : Option FieldType} {hh : List (Nat × Nat × Nat × Nat)} {ws : List Cond} {rm : Room} {Pc : Array Value → State → Prop} {Qc : Array Value → State → Outcome → State → Prop} {free : Addr → Prop} {Ts : List Cond} {own : String} {As rest : List Value} {g : JFrame}
    (S : CallFix p m c cc nL s args Ts own) (hM : Met l y ws rm Pc Qc mc ms free) (cw : vx_CSW R s args own index y bytes maxL ret hh ws rm mc ms n) (hp : PreS s H Pc As)
    (hg : g.method = m) (hn : As.length = n) (hsize : g.locals.size = nL) (hstack : g.stack = As.reverse ++ rest) (hW : 2 * g.monitorRoom + (rest.map fun v => v.category).sum ≤ 8) (hdg : decode cc g.pc = .ok (.invokestatic index, 3)) (hf : cells + mc ≤ R.cells ∧ slots + ms ≤ R.slots) :
    va_Run p l e R s m args below meth c H locs cells slots mc ms g rest (Qc As.toArray) (free) := by
  obtain ⟨⟨hrc, hrs, hfr, hlo, hws, hcw⟩, hcode, hini, hy, hlen, hl, hstt⟩ := cw
  have hK : Back l R p e below s args y 3 8 (PreOf R mc ms Pc) (PostOf Qc mc ms free) := va_backW (hh := hh) (bytes := bytes) (maxL := maxL) (ret := ret) hM hp.1 hrc hrs hfr hlo hws hcw (fun a' U hW => word_at hW (Or.inl (by first | rfl | simp [Cond.onTables, Cond.keeps, Cond.steady])) hini)
  obtain ⟨hx, hb, hml, ho, -⟩ := S
  intro T hT X
  obtain ⟨v, vm₁, ⟨U', l2, c2, s2⟩, hW₁, X', ⟨g', mk, t, L, e1, e2, hq, h1, hL, h2, h3⟩, st⟩ := vx_callSW X hx (hh := hh) (bytes := bytes) (maxL := maxL) (ret := ret) ho hl hstt hini hcode hy hK hg (hsize.trans hml.symm) (argsL := As) (rest := rest) (fun sig h => hn.trans (hlen sig h)) hstack hW (by rw [hb]; exact hdg)
    (fun vm₁ hW₁ => ⟨hf.1, hf.2, hp.2 (T.setVm vm₁) hT hW₁⟩)
  dsimp only [Pt.U, Pt.locs, Pt.cells, Pt.slots] at X' e1 e2 h1 h2 h3 st
  subst h1; subst h2; subst h3
  exact ⟨v, (T.setVm vm₁).calling g' mk As.toArray, t, U', L, hT, X', hL, e1, e2, hq, st⟩
/-- not caught here, past rows that name other classes: it goes on to the caller -/
theorem vx_outP {p : Program} {l : Launch} {e : Env} {R : Room} {s : State} {m : MethodId} {args : Array Value} {below : List Frame} {meth : Method} {c : Code} {H : Heap} {locs : List Loc} {cells slots : Nat} {free : Addr → Prop} {ls : Array Slot} {rest : List Value} {Qc : Array Value → State → Outcome → State → Prop} {XC : String → State → State → Prop}
    {pc : Nat} {own E : String} {ce : Cell} {q : Addr} {mc ms : Nat} (hown : s.vm.findClass own = some m.cls) (hlocks : meth.locks = false)
    (hpass : ∀ z ∈ c.exceptionTable.toList, covers z pc = false ∨ (z.catchType ≠ 0 ∧ ∃ nm : String, (Cond.classLink own z.catchType nm).before args s = true ∧ va_Nc E nm s)) (hcell : H[q]? = some ce) (hv : ce.vm = .none) (hcl : s.vm.findClass E = some ce.cls)
    (hx : ∀ t : State, t.heap = H → s.vm.Alike t.vm → XC E s t) (hf : ∀ z ∈ locs, free z.base) (hc : cells ≤ mc) (hs : slots ≤ ms) :
    vx_W p l e R s m args below meth c H locs cells slots (vx_MQ below Qc XC args s mc ms free) (F0 m pc ls rest) q := by
  intro T hT X
  have hpl : e.platform.magicAccessors = ({} : Platform).magicAccessors := by rw [X.admits.platform]
  obtain ⟨vm', hW', X', st⟩ := X.outThrough hlocks q (g := F0 m pc ls rest) rfl rfl rfl (cell := ce) (by rw [hT]; exact hcell) (by rw [hv]; rfl)
    (by obtain ⟨k9, h9, -⟩ := Vm.findClass_spec hcl; exact ⟨k9, h9⟩) (fun z hz => by
      rcases hpass z hz with h | ⟨hz0, nm, hl1, hn1⟩
      · exact Or.inl h
      · obtain ⟨c6, hc6, hcl6⟩ := Cond.classLink_spec hown hl1 e.platform hpl
        obtain ⟨a8, b8, h1, h2, h3⟩ := hn1
        cases Option.some.inj (h1.symm.trans hcl)
        cases Option.some.inj (h2.symm.trans hc6)
        exact Or.inr ⟨hz0, _, hcl6, h3⟩)
  obtain ⟨g₀, hfr⟩ := X'.frames_eq
  have hcell9 : ((T.setVm vm').setFrames (.throwing q :: below)).heap[q]? = some ce := by
    show T.heap[q]? = some ce
    rw [hT]; exact hcell
  have hend : Ended ((T.setVm vm').setFrames (.throwing q :: below)) below (.threw q) := State.frames_setFrames _ (State.cur_lt_of_frames hfr)
  refine ⟨(T.setVm vm').setFrames (.throwing q :: below), ?_, .threw q, X'.here.running, hend, Or.inr ⟨q, rfl, E, ce, locs, hx _ hT (X'.ends _).1.alike, hcell9, hv, hcl, (X'.ends _).1, (X'.ends _).2.mono hc hs, hf⟩⟩
  rw [X.pushThrowing_eq]
  exact st
/-- a thing of a world lies in the heap -/
theorem vx_lt {D : va_G} {cl : List vw_C} {ws : va_W} {H1 : Heap} (h : va_P D cl ws H1) {k : Nat} {q : Nat × va_E} (hk : ws[k]? = some q) : q.1 < H1.size := (h k q hk).lt
end VXS
/-! ===== END ===== -/
/-! ===== BEGIN methods with a table of their own: called by a name, returning or throwing ===== -/
section VXH
/-! vx_backW, vx_callVX, vx_callSX, vx_callVW, vx_runVW, vx_runVX, vx_runSX, vx_ofWH follow the same proofs as their sisters above (Free/Laws.lean, Shelf42/LK1.lean); vx_outP calls Shelf42/NT130.lean (outThrough). -/
section
variable {l : Launch} {R : Room} {p : Program} {e : Env} {below : List Frame} {s : State} {sargs : Array Value} {y : MethodName} {len W9 : Nat}
theorem vx_backW {ws : List Cond} {rm : Room} {Pc : Array Value → State → Prop} {Qc : Array Value → State → Outcome → State → Prop} {XC : String → State → State → Prop} {mc ms : Nat} {free : Addr → Prop} {bytes : ByteArray} {maxL : Nat} {ret : Option FieldType} {hh : List (Nat × Nat × Nat × Nat)}
    (hM : vx_Met l y ws rm Pc Qc XC mc ms free) (hblind : FrameBlind Pc) (hrc : rm.cells = mc) (hrs : rm.slots = ms)
    (hframes : rm.frames + 1 ≤ R.frames) (hlocals : W9 + (maxL + 11) + rm.locals ≤ R.locals)
    (hws : ∀ w ∈ ws, ∀ a' U, s.WarmedH U.vm → w.before a' U = true) (hcode : Cond.codeWith y bytes maxL ret hh ∈ ws) (hinit : ∀ a' U, s.WarmedH U.vm → (Cond.initialized y.cls).before a' U = true) :
    vx_Back l R p e below s sargs y len W9 (PreOf R mc ms Pc) (PostOf Qc mc ms free) (vx_Post XC mc ms free) := by
  intro m meth c A g ig mk a X hg hsize hdg hW hn hp
  have h1 : (headSpec ws rm).pre.before a A.U = true := atoms_intro fun w hw => hws w hw _ _ X.warmed
  have h2 : (Cond.codeWith y bytes maxL ret hh).before a A.U = true := hws _ hcode _ _ X.warmed
  have h3 : (Cond.initialized y.cls).before a A.U = true := hinit _ _ X.warmed
  have h4 : A.cells + (headSpec ws rm).room.cells ≤ R.cells := by rw [show (headSpec ws rm).room.cells = mc from hrc]; exact hp.1
  have h5 : A.slots + (headSpec ws rm).room.slots ≤ R.slots := by rw [show (headSpec ws rm).room.slots = ms from hrs]; exact hp.2.1
  have hPc : Pc a (A.U.calling g mk a) := hblind _ _ _ _ hp.2.2
  obtain ⟨U, Ls, c0, s0⟩ := A
  dsimp only [Pt.U, Pt.locs, Pt.cells, Pt.slots] at h1 h2 h3 h4 h5 X hn hPc ⊢
  obtain ⟨m9, methY, cY, hn9, hmY, hcY, -, hlY, -⟩ := Cond.codeWith_spec h2
  cases Option.some.inj (hn9.symm.trans hn)
  obtain ⟨kY, hkY, -⟩ := className_of_methodNamed hn
  have hinitY : kY.init = .initialized := Cond.initialized_spec (findClass_of_methodNamed hn) hkY h3
  have h : At U g.method c below := by rw [hg]; exact X.here
  have hlocals9 : W9 + (maxL + 11) + (headSpec ws rm).room.locals ≤ R.locals := hlocals
  have happ : (headSpec ws rm).appliesLoose y e.platform (U.calling g mk a) = true :=
    Spec.appliesLoose_calling (g := g) h hdg hn hkY hinitY
      (X.room_calling (g := g) (R' := (headSpec ws rm).room) hsize hmY hcY hframes (by rw [hlY]; omega) h4 h5) h1
  obtain ⟨mid, hmid⟩ := h.above
  have hfr : (U.setTop g).frames = (.java g :: mid) ++ below := by rw [State.frames_setTop' g h.top, hmid]; rfl
  obtain ⟨o, s₂, hsteps, -, hend, hq⟩ := Steps.callFree hM p X.admits X.cas X.clock (acts := []) hfr happ hPc trivial
  have hq' : vx_Q Qc XC mc ms free a (U.calling g mk a) o s₂ := hq
  rw [State.frames_setTop' g h.top] at hend
  obtain ⟨g₀, hg0⟩ := Option.isSome_iff_exists.mp h.top
  obtain ⟨r, hr⟩ := State.topJava?_eq_some.mp hg0
  have hr' : (({ U with heap := s₂.heap, slotsUsed := s₂.slotsUsed } : State).setVm s₂.vm).frames = .java g₀ :: r := hr
  rcases hq' with ⟨hqc, L, hfe, hL⟩ | ⟨q, rfl, E, ce, L, hx, hce, hcv, hcl, hW₂, hsm, hL⟩
  · obtain ⟨⟨v, rfl⟩, hW₂, e2, q2, q3, q4, q5, q6⟩ := id hfe
    have e3 : s₂ = ({ (U.calling g mk a).setFrames s₂.frames with heap := s₂.heap, slotsUsed := s₂.slotsUsed } : State).setVm s₂.vm := by
      have : s₂ = ({ s₂ with vm := (U.calling g mk a).vm } : State).setVm s₂.vm := rfl
      rw [e2] at this
      exact this
    obtain ⟨c₂, i₂, len₂, hc₂, hd₂, hf₂⟩ := hend
    have hW' : U.WarmedH s₂.vm := hW₂
    have hcc : c₂ = c := by
      have h1 : s₂.code? g.method = U.code? g.method := by
        rw [State.code?_eq, State.code?_eq, hW'.alike.method?]
      exact Option.some.inj (hc₂.symm.trans (h1.trans h.code))
    subst hcc
    have hlen : len₂ = len := by rw [hdg] at hd₂; cases hd₂; rfl
    subst hlen
    have hs₂ : s₂ = (({ U with heap := s₂.heap, slotsUsed := s₂.slotsUsed } : State).setVm s₂.vm).setTop { g with pc := g.pc + len₂, stack := v.toList ++ g.stack } := by
      refine e3.trans ?_
      rw [hf₂, State.calling_eq h.top, State.setFrames_setFrames, State.setTop_of_frames _ hr', hr]
      rfl
    have hsame : U.sameButNew ({ U with heap := s₂.heap, slotsUsed := s₂.slotsUsed } : State) L mc ms := by
      refine ⟨?_, q2, q3, q4, q5, q6⟩
      obtain ⟨t, ht, -⟩ := State.frames_cons hr
      show ({ U with heap := s₂.heap, slotsUsed := s₂.slotsUsed } : State) = { U.setFrames U.frames with heap := s₂.heap, slotsUsed := s₂.slotsUsed }
      rw [State.setFrames_self ht]
    subst hg
    refine Or.inl ⟨v, ⟨(({ U with heap := s₂.heap, slotsUsed := s₂.slotsUsed } : State).setVm s₂.vm), Ls ++ L, c0 + mc, s0 + ms⟩,
      ⟨X.admits, X.cas, X.clock, X.frames, X.room, X.hears, X.method, X.code, (X.here.setHeapUsed s₂.heap s₂.slotsUsed).setVm hW'.alike, X.tail, State.WarmedH.trans X.warmed hW', X.limits, X.bytes, X.same.trans (hsame.setVm s.vm)⟩,
      ⟨g, mk, s₂, L, rfl, rfl, hqc, rfl, hL, rfl, rfl⟩, ?_⟩
    show Steps p.tables e below _ ((({ U with heap := s₂.heap, slotsUsed := s₂.slotsUsed } : State).setVm s₂.vm).setTop { g with pc := g.pc + len₂, stack := v.toList ++ g.stack })
    rw [← hs₂]
    exact hsteps
  · obtain ⟨e2, q2, q3, q4, q5, q6⟩ := id hsm
    have e3 : s₂ = ({ (U.calling g mk a).setFrames s₂.frames with heap := s₂.heap, slotsUsed := s₂.slotsUsed } : State).setVm s₂.vm := by
      have : s₂ = ({ s₂ with vm := (U.calling g mk a).vm } : State).setVm s₂.vm := rfl
      rw [e2] at this
      exact this
    have hf₂ : s₂.frames = .throwing q :: .java g :: U.frames.tail := hend
    have hW' : U.WarmedH s₂.vm := hW₂
    have hs₂ : s₂ = ((({ U with heap := s₂.heap, slotsUsed := s₂.slotsUsed } : State).setVm s₂.vm).setTop g).pushFrame (.throwing q) := by
      refine e3.trans ?_
      rw [hf₂, State.calling_eq h.top, State.setFrames_setFrames, State.pushFrame, State.frames_setTop _ hr', State.setTop_of_frames _ hr', State.setFrames_setFrames, hr]
      rfl
    have hsame : U.sameButNew ({ U with heap := s₂.heap, slotsUsed := s₂.slotsUsed } : State) L mc ms := by
      refine ⟨?_, q2, q3, q4, q5, q6⟩
      obtain ⟨t, ht, -⟩ := State.frames_cons hr
      show ({ U with heap := s₂.heap, slotsUsed := s₂.slotsUsed } : State) = { U.setFrames U.frames with heap := s₂.heap, slotsUsed := s₂.slotsUsed }
      rw [State.setFrames_self ht]
    subst hg
    refine Or.inr ⟨q, ⟨(({ U with heap := s₂.heap, slotsUsed := s₂.slotsUsed } : State).setVm s₂.vm), Ls ++ L, c0 + mc, s0 + ms⟩,
      ⟨X.admits, X.cas, X.clock, X.frames, X.room, X.hears, X.method, X.code, (X.here.setHeapUsed s₂.heap s₂.slotsUsed).setVm hW'.alike, X.tail, State.WarmedH.trans X.warmed hW', X.limits, X.bytes, X.same.trans (hsame.setVm s.vm)⟩,
      ⟨g, mk, s₂, L, E, ce, rfl, rfl, hx, hce, hcv, hcl, rfl, hL, rfl, rfl⟩, ?_⟩
    show Steps p.tables e below _ (((({ U with heap := s₂.heap, slotsUsed := s₂.slotsUsed } : State).setVm s₂.vm).setTop g).pushFrame (.throwing q))
    rw [← hs₂]
    exact hsteps
end
variable {p : Program} {l : Launch} {e : Env} {R : Room} {s : State} {m : MethodId} {args : Array Value} {below : List Frame} {meth : Method} {c : Code} {T : State} {H : Heap} {locs : List Loc} {cells slots : Nat}
theorem vx_callVX (X : Stand p l e R s m args below meth c T locs cells slots) (hexec : p.tables.exec = Jvm.exec) {own C : String} {index : Nat} {y : MethodName} {bytes : ByteArray} {maxL : Nat} {ret : Option FieldType} {hh : List (Nat × Nat × Nat × Nat)}
    (hown : s.vm.findClass own = some m.cls) (hlink : (Cond.methodLink own index y).before args s = true) (hinst : (Cond.instanceMethod y).before args s = true) (hsel : (Cond.selects C y y).before args s = true)
    (hcode : (Cond.codeWith y bytes maxL ret hh).before args s = true) (hy : y.cls ≠ "java/lang/invoke/MethodHandle" ∧ y.cls ≠ "java/lang/invoke/VarHandle")
    {W9 : Nat} {Pre : Pt → Array Value → Prop} {Post : Pt → Array Value → Option Value → Pt → Prop} {PostX : Pt → Array Value → Addr → Pt → Prop} (hK : vx_Back l R p e below s args y 3 W9 Pre Post PostX)
    {b : Addr} {cellB : Cell} (hcell : T.heap[b]? = some cellB) (hobj : cellB.vm.isStatics = false) (hcls : s.vm.findClass C = some cellB.cls)
    {g : JFrame} (hg : g.method = m) (hsize : g.locals.size = c.maxLocals) {argsL rest : List Value} (hlen : ∀ sig, parseMethodDescriptor y.desc = some sig → argsL.length = sig.parameters.length)
    (hstack : g.stack = argsL.reverse ++ .ref b :: rest) (hW : 2 * g.monitorRoom + (rest.map fun v => v.category).sum ≤ W9) (hdg : decode c.code g.pc = .ok (.invokevirtual index, 3))
    (hpre : ∀ vm₁, s.WarmedH vm₁ → Pre ⟨T.setVm vm₁, locs, cells, slots⟩ (Value.ref b :: argsL).toArray) :
    (∃ (v : Option Value) (vm₁ : Vm) (B : Pt), s.WarmedH vm₁ ∧ Stand p l e R s m args below meth c B.U B.locs B.cells B.slots ∧ Post ⟨T.setVm vm₁, locs, cells, slots⟩ (Value.ref b :: argsL).toArray v B ∧
      ∀ target, Steps p.tables e below (B.U.setTop { g with pc := g.pc + 3, stack := v.toList ++ rest }) target → Steps p.tables e below (T.setTop g) target) ∨
    (∃ (q : Addr) (vm₁ : Vm) (B : Pt), s.WarmedH vm₁ ∧ Stand p l e R s m args below meth c B.U B.locs B.cells B.slots ∧ PostX ⟨T.setVm vm₁, locs, cells, slots⟩ (Value.ref b :: argsL).toArray q B ∧
      Steps p.tables e below (T.setTop g) ((B.U.setTop { g with stack := rest }).pushFrame (.throwing q))) := by
  obtain ⟨mk, methM, hnamed, hmethM, hstM, habM⟩ := Cond.instanceMethod_spec hinst
  obtain ⟨m8, methM', cM, hn8, hmethM', -, -, -, -, -, -, hsigM⟩ := Cond.codeWith_spec hcode
  cases Option.some.inj (hn8.symm.trans hnamed)
  cases hmethM.symm.trans hmethM'
  obtain ⟨c2, r2, m2, q1, q2, q3, q4, kP, hkP, hkPi⟩ := Cond.selects_spec hsel
  cases hcls.symm.trans q1
  cases (State.methodFound?_of_named hnamed hy).symm.trans q2
  cases hnamed.symm.trans q3
  have hselP : selectMethod e.platform s.vm cellB.cls mk = .method mk := by rw [Launch.admits_selectMethod X.admits]; exact q4
  obtain ⟨vm₁, X₁, hstep₁⟩ := X.invokevirtual hexec hown hlink hnamed hmethM hstM hkP hkPi hy (a := b) (cell := cellB) hcell
    (fun z h => by rw [h] at hobj; cases hobj) hselP hmethM habM hkP hkPi (g := g) hg (argsL := argsL) (rest := rest) (hlen _ hsigM) hstack hdg
  rcases hK m meth c ⟨T.setVm vm₁, locs, cells, slots⟩ { g with stack := rest } (.invokevirtual index) mk (Value.ref b :: argsL).toArray X₁ hg hsize hdg hW (X₁.named hnamed) (hpre vm₁ X₁.warmed) with ⟨v, B, X', hpost, hsteps⟩ | ⟨q, B, X', hpost, hsteps⟩
  · exact Or.inl ⟨v, vm₁, B, X₁.warmed, X', hpost, fun target h => hstep₁ _ fun acts => by rw [doInvoke_state]; exact hsteps.trans h⟩
  · exact Or.inr ⟨q, vm₁, B, X₁.warmed, X', hpost, hstep₁ _ fun acts => by rw [doInvoke_state]; exact hsteps⟩
theorem vx_callSX (X : Stand p l e R s m args below meth c T locs cells slots) (hexec : p.tables.exec = Jvm.exec) {own : String} {index : Nat} {y : MethodName} {bytes : ByteArray} {maxL : Nat} {ret : Option FieldType} {hh : List (Nat × Nat × Nat × Nat)}
    (hown : s.vm.findClass own = some m.cls) (hlink : (Cond.methodLink own index y).before args s = true) (hstat : (Cond.static y).before args s = true) (hinit : (Cond.initialized y.cls).before args s = true)
    (hcode : (Cond.codeWith y bytes maxL ret hh).before args s = true) (hy : y.cls ≠ "java/lang/invoke/MethodHandle" ∧ y.cls ≠ "java/lang/invoke/VarHandle")
    {W9 : Nat} {Pre : Pt → Array Value → Prop} {Post : Pt → Array Value → Option Value → Pt → Prop} {PostX : Pt → Array Value → Addr → Pt → Prop} (hK : vx_Back l R p e below s args y 3 W9 Pre Post PostX)
    {g : JFrame} (hg : g.method = m) (hsize : g.locals.size = c.maxLocals) {argsL rest : List Value} (hlen : ∀ sig, parseMethodDescriptor y.desc = some sig → argsL.length = sig.parameters.length)
    (hstack : g.stack = argsL.reverse ++ rest) (hW : 2 * g.monitorRoom + (rest.map fun v => v.category).sum ≤ W9) (hdg : decode c.code g.pc = .ok (.invokestatic index, 3))
    (hpre : ∀ vm₁, s.WarmedH vm₁ → Pre ⟨T.setVm vm₁, locs, cells, slots⟩ argsL.toArray) :
    (∃ (v : Option Value) (vm₁ : Vm) (B : Pt), s.WarmedH vm₁ ∧ Stand p l e R s m args below meth c B.U B.locs B.cells B.slots ∧ Post ⟨T.setVm vm₁, locs, cells, slots⟩ argsL.toArray v B ∧
      ∀ target, Steps p.tables e below (B.U.setTop { g with pc := g.pc + 3, stack := v.toList ++ rest }) target → Steps p.tables e below (T.setTop g) target) ∨
    (∃ (q : Addr) (vm₁ : Vm) (B : Pt), s.WarmedH vm₁ ∧ Stand p l e R s m args below meth c B.U B.locs B.cells B.slots ∧ PostX ⟨T.setVm vm₁, locs, cells, slots⟩ argsL.toArray q B ∧
      Steps p.tables e below (T.setTop g) ((B.U.setTop { g with stack := rest }).pushFrame (.throwing q))) := by
  obtain ⟨mk, methM, cM, hnamed, hmethM, -, -, -, -, -, -, hsigM⟩ := Cond.codeWith_spec hcode
  have hstatic : methM.isStatic = true := Cond.static_spec hnamed hmethM hstat
  obtain ⟨kP, hkP, -⟩ := className_of_methodNamed hnamed
  have hinitP : kP.init = .initialized := Cond.initialized_spec (findClass_of_methodNamed hnamed) hkP hinit
  obtain ⟨vm₁, X₁, hstep₁⟩ := X.invokestatic hexec hown hlink hnamed hmethM hstatic hkP hinitP hy (g := g) hg (argsL := argsL) (rest := rest) (hlen _ hsigM) hstack hdg
  rcases hK m meth c ⟨T.setVm vm₁, locs, cells, slots⟩ { g with stack := rest } (.invokestatic index) mk argsL.toArray X₁ hg hsize hdg hW (X₁.named hnamed) (hpre vm₁ X₁.warmed) with ⟨v, B, X', hpost, hsteps⟩ | ⟨q, B, X', hpost, hsteps⟩
  · exact Or.inl ⟨v, vm₁, B, X₁.warmed, X', hpost, fun target h => hstep₁ _ fun acts => by rw [doInvoke_state]; exact hsteps.trans h⟩
  · exact Or.inr ⟨q, vm₁, B, X₁.warmed, X', hpost, hstep₁ _ fun acts => by rw [doInvoke_state]; exact hsteps⟩
theorem vx_callVW (X : Stand p l e R s m args below meth c T locs cells slots) (hexec : p.tables.exec = Jvm.exec) {own C : String} {index : Nat} {y : MethodName} {bytes : ByteArray} {maxL : Nat} {ret : Option FieldType} {hh : List (Nat × Nat × Nat × Nat)}
    (hown : s.vm.findClass own = some m.cls) (hlink : (Cond.methodLink own index y).before args s = true) (hinst : (Cond.instanceMethod y).before args s = true) (hsel : (Cond.selects C y y).before args s = true)
    (hcode : (Cond.codeWith y bytes maxL ret hh).before args s = true) (hy : y.cls ≠ "java/lang/invoke/MethodHandle" ∧ y.cls ≠ "java/lang/invoke/VarHandle")
    {W9 : Nat} {Pre : Pt → Array Value → Prop} {Post : Pt → Array Value → Option Value → Pt → Prop} (hK : Back l R p e below s args y 3 W9 Pre Post)
    {b : Addr} {cellB : Cell} (hcell : T.heap[b]? = some cellB) (hobj : cellB.vm.isStatics = false) (hcls : s.vm.findClass C = some cellB.cls)
    {g : JFrame} (hg : g.method = m) (hsize : g.locals.size = c.maxLocals) {argsL rest : List Value} (hlen : ∀ sig, parseMethodDescriptor y.desc = some sig → argsL.length = sig.parameters.length)
    (hstack : g.stack = argsL.reverse ++ .ref b :: rest) (hW : 2 * g.monitorRoom + (rest.map fun v => v.category).sum ≤ W9) (hdg : decode c.code g.pc = .ok (.invokevirtual index, 3))
    (hpre : ∀ vm₁, s.WarmedH vm₁ → Pre ⟨T.setVm vm₁, locs, cells, slots⟩ (Value.ref b :: argsL).toArray) :
    ∃ (v : Option Value) (vm₁ : Vm) (B : Pt), s.WarmedH vm₁ ∧ Stand p l e R s m args below meth c B.U B.locs B.cells B.slots ∧ Post ⟨T.setVm vm₁, locs, cells, slots⟩ (Value.ref b :: argsL).toArray v B ∧
      ∀ target, Steps p.tables e below (B.U.setTop { g with pc := g.pc + 3, stack := v.toList ++ rest }) target → Steps p.tables e below (T.setTop g) target := by
  obtain ⟨mk, methM, hnamed, hmethM, hstM, habM⟩ := Cond.instanceMethod_spec hinst
  obtain ⟨m8, methM', cM, hn8, hmethM', -, -, -, -, -, -, hsigM⟩ := Cond.codeWith_spec hcode
  cases Option.some.inj (hn8.symm.trans hnamed)
  cases hmethM.symm.trans hmethM'
  obtain ⟨c2, r2, m2, q1, q2, q3, q4, kP, hkP, hkPi⟩ := Cond.selects_spec hsel
  cases hcls.symm.trans q1
  cases (State.methodFound?_of_named hnamed hy).symm.trans q2
  cases hnamed.symm.trans q3
  have hselP : selectMethod e.platform s.vm cellB.cls mk = .method mk := by rw [Launch.admits_selectMethod X.admits]; exact q4
  obtain ⟨vm₁, X₁, hstep₁⟩ := X.invokevirtual hexec hown hlink hnamed hmethM hstM hkP hkPi hy (a := b) (cell := cellB) hcell
    (fun z h => by rw [h] at hobj; cases hobj) hselP hmethM habM hkP hkPi (g := g) hg (argsL := argsL) (rest := rest) (hlen _ hsigM) hstack hdg
  obtain ⟨v, B, X', hpost, hsteps⟩ := hK m meth c ⟨T.setVm vm₁, locs, cells, slots⟩ { g with stack := rest } (.invokevirtual index) mk (Value.ref b :: argsL).toArray X₁ hg hsize hdg hW (X₁.named hnamed) (hpre vm₁ X₁.warmed)
  exact ⟨v, vm₁, B, X₁.warmed, X', hpost, fun target h => hstep₁ _ fun acts => by rw [doInvoke_state]; exact hsteps.trans h⟩
abbrev vx_CVW (R : Room) (s : State) (args : Array Value) (own C : String) (index : Nat) (y : MethodName) (bytes : ByteArray) (maxL : Nat) (ret : Option FieldType) (hh : List (Nat × Nat × Nat × Nat)) (ws : List Cond) (rm : Room) (mc ms n : Nat) : Prop :=
  (rm.cells = mc ∧ rm.slots = ms ∧ rm.frames + 1 ≤ R.frames ∧ 8 + (maxL + 11) + rm.locals ≤ R.locals ∧ (∀ w ∈ ws, ∀ (a' : Array Value) (U : State), s.WarmedH U.vm → w.before a' U = true) ∧ Cond.codeWith y bytes maxL ret hh ∈ ws) ∧
  (Cond.codeWith y bytes maxL ret hh).before args s = true ∧ (Cond.initialized y.cls).before args s = true ∧ (y.cls ≠ "java/lang/invoke/MethodHandle" ∧ y.cls ≠ "java/lang/invoke/VarHandle") ∧
  (∀ sig, parseMethodDescriptor y.desc = some sig → n = sig.parameters.length) ∧ (Cond.methodLink own index y).before args s = true ∧ (Cond.instanceMethod y).before args s = true ∧ (Cond.selects C y y).before args s = true
theorem vx_cwVW {own C : String} {index maxL mc ms : Nat} {y : MethodName} {bytes : ByteArray} {ret : Option FieldType} {hh : List (Nat × Nat × Nat × Nat)} {Ts ws ws' : List Cond} {rm : Room} (n : Nat) (ht : ∀ w ∈ Ts, w.before args s = true) (hT : GoodIn Ts (wsV own index C y ws)) (hw : ws = Cond.codeWith y bytes maxL ret hh :: ws') (hrc : rm.cells = mc) (hrs : rm.slots = ms)
    (hd : y.cls = C ∧ y.cls ≠ "java/lang/invoke/MethodHandle" ∧ y.cls ≠ "java/lang/invoke/VarHandle" ∧ (parseMethodDescriptor y.desc).map (fun d => d.parameters.length) = some n) (hR : rm.frames + 1 ≤ R.frames ∧ 8 + (maxL + 11) + rm.locals ≤ R.locals) :
    vx_CVW R s args own C index y bytes maxL ret hh ws rm mc ms n := by
  obtain ⟨hC, hd⟩ := hd
  subst hC
  have ok : ∀ w ∈ wsV own index y.cls y ws, w.before args s = true := fun w h => ht w (hT w h).1
  have hG : GoodIn Ts ws := fun w h => hT w (by unfold wsV; exact List.mem_append_right _ h)
  have hc : Cond.codeWith y bytes maxL ret hh ∈ ws := by rw [hw]; exact List.mem_cons_self
  refine ⟨⟨hrc, hrs, hR.1, hR.2, pay_in ht hG, hc⟩, ht _ (hG _ hc).1, ok _ (by simp [wsV]), ⟨hd.1, hd.2.1⟩, fun sig h => ?_, ok _ (by simp [wsV]), ok _ (by simp [wsV]), ok _ (by simp [wsV])⟩
  have h2 := hd.2.2
  rw [h] at h2
  exact (Option.some.inj h2).symm
theorem vx_runVW {y : MethodName} {bytes cc : ByteArray} {maxL nL mc ms n index : Nat} {ret : Option FieldType} {hh : List (Nat × Nat × Nat × Nat)} {ws : List Cond} {rm : Room} {Pc : Array Value → State → Prop} {Qc : Array Value → State → Outcome → State → Prop} {free : Addr → Prop} {Ts : List Cond} {own C : String} {b : Addr} {As rest : List Value} {g : JFrame}
    (S : CallFix p m c cc nL s args Ts own) (hM : Met l y ws rm Pc Qc mc ms free) (cw : vx_CVW R s args own C index y bytes maxL ret hh ws rm mc ms n) (hp : PreV s H C b Pc As)
    (hg : g.method = m) (hn : As.length = n) (hsize : g.locals.size = nL) (hstack : g.stack = As.reverse ++ .ref b :: rest) (hW : 2 * g.monitorRoom + (rest.map fun v => v.category).sum ≤ 8) (hdg : decode cc g.pc = .ok (.invokevirtual index, 3)) (hf : cells + mc ≤ R.cells ∧ slots + ms ≤ R.slots) :
    va_Run p l e R s m args below meth c H locs cells slots mc ms g rest (Qc (Value.ref b :: As).toArray) free := by
  obtain ⟨⟨hrc, hrs, hfr, hlo, hws, hcw⟩, hcode, hini, hy, hlen, hl, hin, hse⟩ := cw
  have hK : Back l R p e below s args y 3 8 (PreOf R mc ms Pc) (PostOf Qc mc ms free) := va_backW (hh := hh) (bytes := bytes) (maxL := maxL) (ret := ret) hM hp.1 hrc hrs hfr hlo hws hcw (fun a' U hW => word_at hW (Or.inl (by first | rfl | simp [Cond.onTables, Cond.keeps, Cond.steady])) hini)
  obtain ⟨hx, hb, hml, ho, -⟩ := S
  obtain ⟨-, ⟨cellB, hcB, hoB, hclB⟩, hPc⟩ := hp
  intro T hT X
  obtain ⟨v, vm₁, ⟨U', l2, c2, s2⟩, hW₁, X', ⟨g', mk, t, L, e1, e2, hq, h1, hL, h2, h3⟩, st⟩ := vx_callVW X hx (C := C) (hh := hh) (bytes := bytes) (maxL := maxL) (ret := ret) ho hl hin hse hcode hy hK (by rw [hT]; exact hcB) hoB hclB hg (hsize.trans hml.symm) (argsL := As) (rest := rest) (fun sig h => hn.trans (hlen sig h)) hstack hW (by rw [hb]; exact hdg)
    (fun vm₁ hW₁ => ⟨hf.1, hf.2, hPc (T.setVm vm₁) hT hW₁⟩)
  dsimp only [Pt.U, Pt.locs, Pt.cells, Pt.slots] at X' e1 e2 h1 h2 h3 st
  subst h1; subst h2; subst h3
  exact ⟨v, (T.setVm vm₁).calling g' mk (Value.ref b :: As).toArray, t, U', L, hT, X', hL, e1, e2, hq, st⟩
section
variable {y : MethodName} {bytes cc : ByteArray} {maxL nL mc ms n index : Nat} {ret : Option FieldType} {ws : List Cond} {rm : Room} {Pc : Array Value → State → Prop} {Qc : Array Value → State → Outcome → State → Prop} {XC : String → State → State → Prop} {free : Addr → Prop} {Ts : List Cond} {own C : String} {b : Addr} {As rest : List Value} {g : JFrame}
theorem vx_runVX {hh : List (Nat × Nat × Nat × Nat)} (S : CallFix p m c cc nL s args Ts own) (hM : vx_Met l y ws rm Pc Qc XC mc ms free) (cw : vx_CVW R s args own C index y bytes maxL ret hh ws rm mc ms n) (hp : PreV s H C b Pc As)
    (hg : g.method = m) (hn : As.length = n) (hsize : g.locals.size = nL) (hstack : g.stack = As.reverse ++ .ref b :: rest) (hW : 2 * g.monitorRoom + (rest.map fun v => v.category).sum ≤ 8) (hdg : decode cc g.pc = .ok (.invokevirtual index, 3)) (hf : cells + mc ≤ R.cells ∧ slots + ms ≤ R.slots) :
    vx_Run p l e R s m args below meth c H locs cells slots mc ms g rest (Qc (Value.ref b :: As).toArray) XC free := by
  obtain ⟨⟨hrc, hrs, hfr, hlo, hws, hcw⟩, hcode, hini, hy, hlen, hl, hin, hse⟩ := cw
  have hK : vx_Back l R p e below s args y 3 8 (PreOf R mc ms Pc) (PostOf Qc mc ms free) (vx_Post XC mc ms free) := vx_backW (hh := hh) (bytes := bytes) (maxL := maxL) (ret := ret) hM hp.1 hrc hrs hfr hlo hws hcw (fun a' U hW => word_at hW (Or.inl (by first | rfl | simp [Cond.onTables, Cond.keeps, Cond.steady])) hini)
  obtain ⟨hx, hb, hml, ho, -⟩ := S
  obtain ⟨-, ⟨cellB, hcB, hoB, hclB⟩, hPc⟩ := hp
  intro T hT X
  rcases vx_callVX X hx (C := C) (hh := hh) (bytes := bytes) (maxL := maxL) (ret := ret) ho hl hin hse hcode hy hK (by rw [hT]; exact hcB) hoB hclB hg (hsize.trans hml.symm) (argsL := As) (rest := rest) (fun sig h => hn.trans (hlen sig h)) hstack hW (by rw [hb]; exact hdg)
    (fun vm₁ hW₁ => ⟨hf.1, hf.2, hPc (T.setVm vm₁) hT hW₁⟩) with ⟨v, vm₁, ⟨U', l2, c2, s2⟩, hW₁, X', ⟨g', mk, t, L, e1, e2, hq, h1, hL, h2, h3⟩, st⟩ | ⟨q, vm₁, ⟨U', l2, c2, s2⟩, hW₁, X', ⟨g', mk, t, L, E, ce, e1, e2, hq, hce, hcv, hcl, h1, hL, h2, h3⟩, st⟩
  · dsimp only [Pt.U, Pt.locs, Pt.cells, Pt.slots] at X' e1 e2 h1 h2 h3 st
    subst h1; subst h2; subst h3
    exact Or.inl ⟨v, (T.setVm vm₁).calling g' mk (Value.ref b :: As).toArray, t, U', L, hT, X', hL, e1, e2, hq, st⟩
  · dsimp only [Pt.U, Pt.locs, Pt.cells, Pt.slots] at X' e1 e2 h1 h2 h3 st hcl
    subst h1; subst h2; subst h3
    exact Or.inr ⟨q, (T.setVm vm₁).calling g' mk (Value.ref b :: As).toArray, t, U', L, E, ce, hT, X', hL, e1, e2, hq, hce, hcv, vx_cls hW₁ hcl, st⟩
theorem vx_runSX {hh : List (Nat × Nat × Nat × Nat)} (S : CallFix p m c cc nL s args Ts own) (hM : vx_Met l y ws rm Pc Qc XC mc ms free) (cw : vx_CSW R s args own index y bytes maxL ret hh ws rm mc ms n) (hp : PreS s H Pc As)
    (hg : g.method = m) (hn : As.length = n) (hsize : g.locals.size = nL) (hstack : g.stack = As.reverse ++ rest) (hW : 2 * g.monitorRoom + (rest.map fun v => v.category).sum ≤ 8) (hdg : decode cc g.pc = .ok (.invokestatic index, 3)) (hf : cells + mc ≤ R.cells ∧ slots + ms ≤ R.slots) :
    vx_Run p l e R s m args below meth c H locs cells slots mc ms g rest (Qc As.toArray) XC free := by
  obtain ⟨⟨hrc, hrs, hfr, hlo, hws, hcw⟩, hcode, hini, hy, hlen, hl, hstt⟩ := cw
  have hK : vx_Back l R p e below s args y 3 8 (PreOf R mc ms Pc) (PostOf Qc mc ms free) (vx_Post XC mc ms free) := vx_backW (hh := hh) (bytes := bytes) (maxL := maxL) (ret := ret) hM hp.1 hrc hrs hfr hlo hws hcw (fun a' U hW => word_at hW (Or.inl (by first | rfl | simp [Cond.onTables, Cond.keeps, Cond.steady])) hini)
  obtain ⟨hx, hb, hml, ho, -⟩ := S
  intro T hT X
  rcases vx_callSX X hx (hh := hh) (bytes := bytes) (maxL := maxL) (ret := ret) ho hl hstt hini hcode hy hK hg (hsize.trans hml.symm) (argsL := As) (rest := rest) (fun sig h => hn.trans (hlen sig h)) hstack hW (by rw [hb]; exact hdg)
    (fun vm₁ hW₁ => ⟨hf.1, hf.2, hp.2 (T.setVm vm₁) hT hW₁⟩) with ⟨v, vm₁, ⟨U', l2, c2, s2⟩, hW₁, X', ⟨g', mk, t, L, e1, e2, hq, h1, hL, h2, h3⟩, st⟩ | ⟨q, vm₁, ⟨U', l2, c2, s2⟩, hW₁, X', ⟨g', mk, t, L, E, ce, e1, e2, hq, hce, hcv, hcl, h1, hL, h2, h3⟩, st⟩
  · dsimp only [Pt.U, Pt.locs, Pt.cells, Pt.slots] at X' e1 e2 h1 h2 h3 st
    subst h1; subst h2; subst h3
    exact Or.inl ⟨v, (T.setVm vm₁).calling g' mk As.toArray, t, U', L, hT, X', hL, e1, e2, hq, st⟩
  · dsimp only [Pt.U, Pt.locs, Pt.cells, Pt.slots] at X' e1 e2 h1 h2 h3 st hcl
    subst h1; subst h2; subst h3
    exact Or.inr ⟨q, (T.setVm vm₁).calling g' mk As.toArray, t, U', L, E, ce, hT, X', hL, e1, e2, hq, hce, hcv, vx_cls hW₁ hcl, st⟩
end
end VXH
theorem vx_ofWH {l : Launch} {y : MethodName} {ws ws' : List Cond} {rm : Room} {Pc : Array Value → State → Prop} {Qc : Array Value → State → Outcome → State → Prop} {XC : String → State → State → Prop} {mc ms : Nat} {free : Addr → Prop} {cc : ByteArray} {maxL : Nat} {ret : Option FieldType} {hh : List (Nat × Nat × Nat × Nat)}
    (hy : plainName y.cls = true) (hw : ws = Cond.codeWith y cc maxL ret hh :: ws')
    (body : ∀ p e s m args below meth c s₁, BodyLoose p l y (headSpec ws rm) cc maxL ret e s m args below meth c s₁ → c.maxLocals = maxL → Pc args s →
      W p l e (headSpec ws rm).room s m args below meth c s.heap [] 0 0 (vx_MQ below Qc XC args s mc ms free) (entryFrame m args maxL)) : vx_Met l y ws rm Pc Qc XC mc ms free := by
  refine MetFree.of_bodyS (code := cc) (maxLocals := maxL) (ret := ret) hy ?_ ?_
  · intro args s m h hn
    obtain ⟨m9, meth, c, hn9, h1, h2, h3, h4, -, h5, h6, -⟩ := Cond.codeWith_spec (atoms_spec (ws := ws) h _ (by rw [hw]; exact List.mem_cons_self))
    cases hn.symm.trans hn9
    exact ⟨meth, c, h1, h2, h3, h4, h5, h6⟩
  · intro p e s m args below meth c s₁ B hml hP _
    have hh0 : s₁.heap = s.heap := by rw [B.state]; rfl
    obtain ⟨t, a1, o, b1, b2, b3⟩ := body p e s m args below meth c s₁ B hml hP s₁ hh0 (Stand.of_body B)
    exact ⟨t, o, a1, b1, b2, b3⟩
/-! ===== END ===== -/
end
section
-- ===== PART A: goes FIRST, ahead of the names: the tables' words, and 'selects' of the private methods out of them =====
/-- a private method of a class that the tables say can be made, by its rows of tables_1 -/
def lw_okq (q : MethodName × Nat) : Prop := (q.1.cls ≠ "java/lang/invoke/MethodHandle" ∧ q.1.cls ≠ "java/lang/invoke/VarHandle") ∧ Cond.instantiable q.1.cls q.2 ∈ tables_1 ∧ Cond.privateMethod q.1 ∈ tables_1 ∧ Cond.instanceMethod q.1 ∈ tables_1
theorem lw_p0 : lw_okq (⟨"PisteLine", "arePoolsDrawn", "()Z"⟩, 10) := ⟨⟨by decide +kernel, by decide +kernel⟩, List.mem_of_getElem? (i := 26) (by decide +kernel), List.mem_of_getElem? (i := 152) (by decide +kernel), List.mem_of_getElem? (i := 153) (by decide +kernel)⟩
theorem lw_p1 : lw_okq (⟨"java/lang/Throwable", "fillInStackTrace", "(I)Ljava/lang/Throwable;"⟩, 6) := ⟨⟨by decide +kernel, by decide +kernel⟩, List.mem_of_getElem? (i := 194) (by decide +kernel), List.mem_of_getElem? (i := 192) (by decide +kernel), List.mem_of_getElem? (i := 193) (by decide +kernel)⟩
theorem lw_p2 : lw_okq (⟨"PisteLine", "drawPool", "(II)V"⟩, 10) := ⟨⟨by decide +kernel, by decide +kernel⟩, List.mem_of_getElem? (i := 26) (by decide +kernel), List.mem_of_getElem? (i := 268) (by decide +kernel), List.mem_of_getElem? (i := 269) (by decide +kernel)⟩
theorem lw_p3 : lw_okq (⟨"PisteLine", "addPoolBout", "(II)V"⟩, 10) := ⟨⟨by decide +kernel, by decide +kernel⟩, List.mem_of_getElem? (i := 26) (by decide +kernel), List.mem_of_getElem? (i := 275) (by decide +kernel), List.mem_of_getElem? (i := 276) (by decide +kernel)⟩
theorem lw_p4 : lw_okq (⟨"PisteLine", "boutAt", "(I)LPisteLine$Bout;"⟩, 10) := ⟨⟨by decide +kernel, by decide +kernel⟩, List.mem_of_getElem? (i := 26) (by decide +kernel), List.mem_of_getElem? (i := 332) (by decide +kernel), List.mem_of_getElem? (i := 333) (by decide +kernel)⟩
theorem lw_p5 : lw_okq (⟨"PisteLine", "weaponAt", "(I)LPisteLine$Weapon;"⟩, 10) := ⟨⟨by decide +kernel, by decide +kernel⟩, List.mem_of_getElem? (i := 26) (by decide +kernel), List.mem_of_getElem? (i := 340) (by decide +kernel), List.mem_of_getElem? (i := 341) (by decide +kernel)⟩
theorem lw_p6 : lw_okq (⟨"PisteLine", "fencerAt", "(I)LPisteLine$Fencer;"⟩, 10) := ⟨⟨by decide +kernel, by decide +kernel⟩, List.mem_of_getElem? (i := 26) (by decide +kernel), List.mem_of_getElem? (i := 419) (by decide +kernel), List.mem_of_getElem? (i := 420) (by decide +kernel)⟩
theorem lw_p7 : lw_okq (⟨"PisteLine", "fail", "(LPisteLine$Weapon;)V"⟩, 10) := ⟨⟨by decide +kernel, by decide +kernel⟩, List.mem_of_getElem? (i := 26) (by decide +kernel), List.mem_of_getElem? (i := 454) (by decide +kernel), List.mem_of_getElem? (i := 455) (by decide +kernel)⟩
theorem lw_p8 : lw_okq (⟨"PisteLine$Tableau", "winnerNow", "(ILPisteLine$Bout;)I"⟩, 5) := ⟨⟨by decide +kernel, by decide +kernel⟩, List.mem_of_getElem? (i := 72) (by decide +kernel), List.mem_of_getElem? (i := 505) (by decide +kernel), List.mem_of_getElem? (i := 506) (by decide +kernel)⟩
theorem lw_p9 : lw_okq (⟨"PisteLine$Tableau", "drop", "(LPisteLine$Bout;LPisteLine$Piste;)V"⟩, 5) := ⟨⟨by decide +kernel, by decide +kernel⟩, List.mem_of_getElem? (i := 72) (by decide +kernel), List.mem_of_getElem? (i := 517) (by decide +kernel), List.mem_of_getElem? (i := 518) (by decide +kernel)⟩
theorem lw_p10 : lw_okq (⟨"PisteLine$Phrase", "firstLight", "()I"⟩, 10) := ⟨⟨by decide +kernel, by decide +kernel⟩, List.mem_of_getElem? (i := 542) (by decide +kernel), List.mem_of_getElem? (i := 594) (by decide +kernel), List.mem_of_getElem? (i := 595) (by decide +kernel)⟩
theorem lw_p11 : lw_okq (⟨"PisteLine$Phrase", "isALight", "(I)Z"⟩, 10) := ⟨⟨by decide +kernel, by decide +kernel⟩, List.mem_of_getElem? (i := 542) (by decide +kernel), List.mem_of_getElem? (i := 598) (by decide +kernel), List.mem_of_getElem? (i := 599) (by decide +kernel)⟩
theorem lw_p12 : lw_okq (⟨"PisteLine$Phrase", "otherLight", "(I)I"⟩, 10) := ⟨⟨by decide +kernel, by decide +kernel⟩, List.mem_of_getElem? (i := 542) (by decide +kernel), List.mem_of_getElem? (i := 602) (by decide +kernel), List.mem_of_getElem? (i := 603) (by decide +kernel)⟩
theorem lw_p13 : lw_okq (⟨"PisteLine$Phrase", "touchOf", "(I)I"⟩, 10) := ⟨⟨by decide +kernel, by decide +kernel⟩, List.mem_of_getElem? (i := 542) (by decide +kernel), List.mem_of_getElem? (i := 606) (by decide +kernel), List.mem_of_getElem? (i := 607) (by decide +kernel)⟩
theorem lw_p14 : lw_okq (⟨"PisteLine$Phrase", "rightAt", "(I)I"⟩, 10) := ⟨⟨by decide +kernel, by decide +kernel⟩, List.mem_of_getElem? (i := 542) (by decide +kernel), List.mem_of_getElem? (i := 610) (by decide +kernel), List.mem_of_getElem? (i := 611) (by decide +kernel)⟩
theorem lw_p15 : lw_okq (⟨"PisteLine", "isTooEarly", "(I)Z"⟩, 10) := ⟨⟨by decide +kernel, by decide +kernel⟩, List.mem_of_getElem? (i := 26) (by decide +kernel), List.mem_of_getElem? (i := 633) (by decide +kernel), List.mem_of_getElem? (i := 634) (by decide +kernel)⟩
def lw_privs_1 : List (MethodName × Nat) := [(⟨"PisteLine", "arePoolsDrawn", "()Z"⟩, 10), (⟨"java/lang/Throwable", "fillInStackTrace", "(I)Ljava/lang/Throwable;"⟩, 6), (⟨"PisteLine", "drawPool", "(II)V"⟩, 10), (⟨"PisteLine", "addPoolBout", "(II)V"⟩, 10), (⟨"PisteLine", "boutAt", "(I)LPisteLine$Bout;"⟩, 10), (⟨"PisteLine", "weaponAt", "(I)LPisteLine$Weapon;"⟩, 10), (⟨"PisteLine", "fencerAt", "(I)LPisteLine$Fencer;"⟩, 10), (⟨"PisteLine", "fail", "(LPisteLine$Weapon;)V"⟩, 10), (⟨"PisteLine$Tableau", "winnerNow", "(ILPisteLine$Bout;)I"⟩, 5), (⟨"PisteLine$Tableau", "drop", "(LPisteLine$Bout;LPisteLine$Piste;)V"⟩, 5), (⟨"PisteLine$Phrase", "firstLight", "()I"⟩, 10), (⟨"PisteLine$Phrase", "isALight", "(I)Z"⟩, 10), (⟨"PisteLine$Phrase", "otherLight", "(I)I"⟩, 10), (⟨"PisteLine$Phrase", "touchOf", "(I)I"⟩, 10), (⟨"PisteLine$Phrase", "rightAt", "(I)I"⟩, 10), (⟨"PisteLine", "isTooEarly", "(I)Z"⟩, 10)]
theorem lw_r1 : ∀ q ∈ lw_privs_1, lw_okq q := List.forall_mem_cons.mpr ⟨lw_p0, List.forall_mem_cons.mpr ⟨lw_p1, List.forall_mem_cons.mpr ⟨lw_p2, List.forall_mem_cons.mpr ⟨lw_p3, List.forall_mem_cons.mpr ⟨lw_p4, List.forall_mem_cons.mpr ⟨lw_p5, List.forall_mem_cons.mpr ⟨lw_p6, List.forall_mem_cons.mpr ⟨lw_p7, List.forall_mem_cons.mpr ⟨lw_p8, List.forall_mem_cons.mpr ⟨lw_p9, List.forall_mem_cons.mpr ⟨lw_p10, List.forall_mem_cons.mpr ⟨lw_p11, List.forall_mem_cons.mpr ⟨lw_p12, List.forall_mem_cons.mpr ⟨lw_p13, List.forall_mem_cons.mpr ⟨lw_p14, List.forall_mem_cons.mpr ⟨lw_p15, fun _ h => absurd h List.not_mem_nil⟩⟩⟩⟩⟩⟩⟩⟩⟩⟩⟩⟩⟩⟩⟩⟩
theorem lw_p16 : lw_okq (⟨"PisteLine", "isAPoolBoutOpen", "()Z"⟩, 10) := ⟨⟨by decide +kernel, by decide +kernel⟩, List.mem_of_getElem? (i := 26) (by decide +kernel), List.mem_of_getElem? (i := 744) (by decide +kernel), List.mem_of_getElem? (i := 745) (by decide +kernel)⟩
theorem lw_p17 : lw_okq (⟨"PisteLine$Tableau", "laySeeds", "()V"⟩, 5) := ⟨⟨by decide +kernel, by decide +kernel⟩, List.mem_of_getElem? (i := 72) (by decide +kernel), List.mem_of_getElem? (i := 757) (by decide +kernel), List.mem_of_getElem? (i := 758) (by decide +kernel)⟩
theorem lw_p18 : lw_okq (⟨"PisteLine", "countPools", "()V"⟩, 10) := ⟨⟨by decide +kernel, by decide +kernel⟩, List.mem_of_getElem? (i := 26) (by decide +kernel), List.mem_of_getElem? (i := 761) (by decide +kernel), List.mem_of_getElem? (i := 762) (by decide +kernel)⟩
theorem lw_p19 : lw_okq (⟨"PisteLine", "countSide", "(LPisteLine$Bout;I)V"⟩, 10) := ⟨⟨by decide +kernel, by decide +kernel⟩, List.mem_of_getElem? (i := 26) (by decide +kernel), List.mem_of_getElem? (i := 769) (by decide +kernel), List.mem_of_getElem? (i := 770) (by decide +kernel)⟩
theorem lw_p20 : lw_okq (⟨"PisteLine", "fencerInPlace", "(I)I"⟩, 10) := ⟨⟨by decide +kernel, by decide +kernel⟩, List.mem_of_getElem? (i := 26) (by decide +kernel), List.mem_of_getElem? (i := 781) (by decide +kernel), List.mem_of_getElem? (i := 782) (by decide +kernel)⟩
theorem lw_p21 : lw_okq (⟨"PisteLine", "fencersAhead", "(LPisteLine$Fencer;)I"⟩, 10) := ⟨⟨by decide +kernel, by decide +kernel⟩, List.mem_of_getElem? (i := 26) (by decide +kernel), List.mem_of_getElem? (i := 785) (by decide +kernel), List.mem_of_getElem? (i := 786) (by decide +kernel)⟩
def lw_privs_2 : List (MethodName × Nat) := [(⟨"PisteLine", "isAPoolBoutOpen", "()Z"⟩, 10), (⟨"PisteLine$Tableau", "laySeeds", "()V"⟩, 5), (⟨"PisteLine", "countPools", "()V"⟩, 10), (⟨"PisteLine", "countSide", "(LPisteLine$Bout;I)V"⟩, 10), (⟨"PisteLine", "fencerInPlace", "(I)I"⟩, 10), (⟨"PisteLine", "fencersAhead", "(LPisteLine$Fencer;)I"⟩, 10)]
theorem lw_r2 : ∀ q ∈ lw_privs_2, lw_okq q := List.forall_mem_cons.mpr ⟨lw_p16, List.forall_mem_cons.mpr ⟨lw_p17, List.forall_mem_cons.mpr ⟨lw_p18, List.forall_mem_cons.mpr ⟨lw_p19, List.forall_mem_cons.mpr ⟨lw_p20, List.forall_mem_cons.mpr ⟨lw_p21, fun _ h => absurd h List.not_mem_nil⟩⟩⟩⟩⟩⟩
def lw_privs : List (MethodName × Nat) := lw_privs_1 ++ (lw_privs_2)
def lw_tbl : List Cond := k2_sels lw_privs ++ tables_1
theorem lw_privs_ok : ∀ q ∈ lw_privs, lw_okq q := by
  show ∀ q ∈ lw_privs_1 ++ (lw_privs_2), lw_okq q
  exact List.forall_mem_append.mpr ⟨lw_r1, lw_r2⟩
-- ===== end of PART A; then your names; then what follows =====
/-! ===== BEGIN printed: names, fields, word lists, decode rows ===== -/
def RX0 : String := "PisteLine$Bout"
def TX0 : u_T := fun k => match k with
  | 0 => ("PisteLine$Bout", "isOfPool", "Z", true)
  | 1 => ("PisteLine$Bout", "first", "I", false)
  | 2 => ("PisteLine$Bout", "second", "I", false)
  | 3 => ("PisteLine$Bout", "row", "[LPisteLine$Phrase;", true)
  | 4 => ("PisteLine$Bout", "ended", "I", false)
  | 5 => ("PisteLine$Bout", "appealsOfFirst", "I", false)
  | 6 => ("PisteLine$Bout", "appealsOfSecond", "I", false)
  | _ => ("PisteLine$Bout", "kept", "LPisteLine$Tally;", true)
def tyX0 : Nat → FieldType := fun k => match k with
  | 0 => .boolean
  | 1 => .int
  | 2 => .int
  | 3 => .array (.object "PisteLine$Phrase")
  | 4 => .int
  | 5 => .int
  | 6 => .int
  | _ => .object "PisteLine$Tally"
abbrev wsX00 : List Cond := u_ws RX0 TX0 8
theorem nmX0 : ∀ a, a < 8 → ∀ b, b < 8 → a ≠ b → (TX0 a).2.1 ≠ (TX0 b).2.1 := by decide +kernel
theorem tyX0_ok : ∀ k, k < 8 → parseFieldDescriptor (TX0 k).2.2.1 = some (tyX0 k) := by decide +kernel
abbrev cX0_init : ByteArray := prog_2_method_1_code
def yX0_init : MethodName := ⟨RX0, "<init>", "(ZII)V"⟩
abbrev cX0_fencerAt : ByteArray := prog_2_method_2_code
def yX0_fencerAt : MethodName := ⟨RX0, "fencerAt", "(I)I"⟩
abbrev cX0_phraseAt : ByteArray := prog_2_method_3_code
def yX0_phraseAt : MethodName := ⟨RX0, "phraseAt", "(I)LPisteLine$Phrase;"⟩
abbrev cX0_keep : ByteArray := prog_2_method_4_code
def yX0_keep : MethodName := ⟨RX0, "keep", "(LPisteLine$Phrase;)V"⟩
abbrev cX0_forget : ByteArray := prog_2_method_5_code
def yX0_forget : MethodName := ⟨RX0, "forget", "()V"⟩
abbrev cX0_touchesLeft : ByteArray := prog_2_method_6_code
def yX0_touchesLeft : MethodName := ⟨RX0, "touchesLeft", "(LPisteLine$Phrase;)I"⟩
abbrev cX0_recount : ByteArray := prog_2_method_7_code
def yX0_recount : MethodName := ⟨RX0, "recount", "()V"⟩
abbrev cX0_countAnew : ByteArray := prog_2_method_8_code
def yX0_countAnew : MethodName := ⟨RX0, "countAnew", "(LPisteLine$Tally;)V"⟩
abbrev cX0_appealsLeft : ByteArray := prog_2_method_9_code
def yX0_appealsLeft : MethodName := ⟨RX0, "appealsLeft", "(I)I"⟩
abbrev cX0_useAppeal : ByteArray := prog_2_method_10_code
def yX0_useAppeal : MethodName := ⟨RX0, "useAppeal", "(I)V"⟩
abbrev cX0_winningSide : ByteArray := prog_2_method_11_code
def yX0_winningSide : MethodName := ⟨RX0, "winningSide", "()I"⟩
abbrev cX0_winningFencer : ByteArray := prog_2_method_12_code
def yX0_winningFencer : MethodName := ⟨RX0, "winningFencer", "()I"⟩
abbrev cX0_canBeFenced : ByteArray := prog_2_method_13_code
def yX0_canBeFenced : MethodName := ⟨RX0, "canBeFenced", "()Z"⟩
def RX1 : String := "PisteLine$Fencer"
def TX1 : u_T := fun k => match k with
  | 0 => ("PisteLine$Fencer", "number", "I", true)
  | 1 => ("PisteLine$Fencer", "bouts", "I", false)
  | 2 => ("PisteLine$Fencer", "victories", "I", false)
  | 3 => ("PisteLine$Fencer", "given", "I", false)
  | _ => ("PisteLine$Fencer", "got", "I", false)
def tyX1 : Nat → FieldType := fun k => match k with
  | 0 => .int
  | 1 => .int
  | 2 => .int
  | 3 => .int
  | _ => .int
abbrev wsX10 : List Cond := u_ws RX1 TX1 5
theorem nmX1 : ∀ a, a < 5 → ∀ b, b < 5 → a ≠ b → (TX1 a).2.1 ≠ (TX1 b).2.1 := by decide +kernel
theorem tyX1_ok : ∀ k, k < 5 → parseFieldDescriptor (TX1 k).2.2.1 = some (tyX1 k) := by decide +kernel
abbrev cX1_init : ByteArray := prog_3_method_1_code
def yX1_init : MethodName := ⟨RX1, "<init>", "(I)V"⟩
abbrev cX1_clear : ByteArray := prog_3_method_2_code
def yX1_clear : MethodName := ⟨RX1, "clear", "()V"⟩
abbrev cX1_add : ByteArray := prog_3_method_3_code
def yX1_add : MethodName := ⟨RX1, "add", "(IIZ)V"⟩
abbrev cX1_difference : ByteArray := prog_3_method_4_code
def yX1_difference : MethodName := ⟨RX1, "difference", "()I"⟩
abbrev cX1_isAheadOf : ByteArray := prog_3_method_5_code
def yX1_isAheadOf : MethodName := ⟨RX1, "isAheadOf", "(LPisteLine$Fencer;)Z"⟩
def RX2 : String := "PisteLine$Phrase"
def TX2 : u_T := fun k => match k with
  | 0 => ("PisteLine$Phrase", "isFoil", "Z", true)
  | 1 => ("PisteLine$Phrase", "first", "LPisteLine$Weapon;", true)
  | 2 => ("PisteLine$Phrase", "second", "LPisteLine$Weapon;", true)
  | 3 => ("PisteLine$Phrase", "kinds", "[I", true)
  | 4 => ("PisteLine$Phrase", "sides", "[I", true)
  | 5 => ("PisteLine$Phrase", "times", "[I", true)
  | 6 => ("PisteLine$Phrase", "events", "I", false)
  | 7 => ("PisteLine$Phrase", "hasBenchTold", "Z", false)
  | 8 => ("PisteLine$Phrase", "benchRight", "I", false)
  | _ => ("PisteLine$Phrase", "given", "I", false)
def tyX2 : Nat → FieldType := fun k => match k with
  | 0 => .boolean
  | 1 => .object "PisteLine$Weapon"
  | 2 => .object "PisteLine$Weapon"
  | 3 => .array .int
  | 4 => .array .int
  | 5 => .array .int
  | 6 => .int
  | 7 => .boolean
  | 8 => .int
  | _ => .int
abbrev wsX20 : List Cond := u_ws RX2 TX2 10
theorem nmX2 : ∀ a, a < 10 → ∀ b, b < 10 → a ≠ b → (TX2 a).2.1 ≠ (TX2 b).2.1 := by decide +kernel
theorem tyX2_ok : ∀ k, k < 10 → parseFieldDescriptor (TX2 k).2.2.1 = some (tyX2 k) := by decide +kernel
abbrev cX2_init : ByteArray := prog_4_method_1_code
def yX2_init : MethodName := ⟨RX2, "<init>", "(ZLPisteLine$Weapon;LPisteLine$Weapon;)V"⟩
abbrev cX2_isFull : ByteArray := prog_4_method_2_code
def yX2_isFull : MethodName := ⟨RX2, "isFull", "()Z"⟩
abbrev cX2_latestTime : ByteArray := prog_4_method_3_code
def yX2_latestTime : MethodName := ⟨RX2, "latestTime", "()I"⟩
abbrev cX2_hear : ByteArray := prog_4_method_4_code
def yX2_hear : MethodName := ⟨RX2, "hear", "(III)V"⟩
abbrev cX2_tellRight : ByteArray := prog_4_method_5_code
def yX2_tellRight : MethodName := ⟨RX2, "tellRight", "(I)V"⟩
abbrev cX2_judge : ByteArray := prog_4_method_6_code
def yX2_judge : MethodName := ⟨RX2, "judge", "()I"⟩
abbrev cX2_withoutStruck : ByteArray := prog_4_method_7_code
def yX2_withoutStruck : MethodName := ⟨RX2, "withoutStruck", "(IZ)I"⟩
abbrev cX2_isALight : ByteArray := prog_4_method_8_code
def yX2_isALight : MethodName := ⟨RX2, "isALight", "(I)Z"⟩
abbrev cX2_firstLight : ByteArray := prog_4_method_9_code
def yX2_firstLight : MethodName := ⟨RX2, "firstLight", "()I"⟩
abbrev cX2_otherLight : ByteArray := prog_4_method_10_code
def yX2_otherLight : MethodName := ⟨RX2, "otherLight", "(I)I"⟩
abbrev cX2_rightAt : ByteArray := prog_4_method_11_code
def yX2_rightAt : MethodName := ⟨RX2, "rightAt", "(I)I"⟩
abbrev cX2_touchOf : ByteArray := prog_4_method_12_code
def yX2_touchOf : MethodName := ⟨RX2, "touchOf", "(I)I"⟩
def RX3 : String := "PisteLine$Piste"
def TX3 : u_T := fun k => match k with
  | 0 => ("PisteLine$Piste", "number", "I", false)
  | 1 => ("PisteLine$Piste", "bout", "LPisteLine$Bout;", false)
  | 2 => ("PisteLine$Piste", "first", "LPisteLine$Weapon;", false)
  | 3 => ("PisteLine$Piste", "second", "LPisteLine$Weapon;", false)
  | 4 => ("PisteLine$Piste", "running", "LPisteLine$Phrase;", false)
  | _ => ("PisteLine$Piste", "hasEnded", "Z", false)
def tyX3 : Nat → FieldType := fun k => match k with
  | 0 => .int
  | 1 => .object "PisteLine$Bout"
  | 2 => .object "PisteLine$Weapon"
  | 3 => .object "PisteLine$Weapon"
  | 4 => .object "PisteLine$Phrase"
  | _ => .boolean
abbrev wsX30 : List Cond := u_ws RX3 TX3 6
theorem nmX3 : ∀ a, a < 6 → ∀ b, b < 6 → a ≠ b → (TX3 a).2.1 ≠ (TX3 b).2.1 := by decide +kernel
theorem tyX3_ok : ∀ k, k < 6 → parseFieldDescriptor (TX3 k).2.2.1 = some (tyX3 k) := by decide +kernel
abbrev cX3_init : ByteArray := prog_5_method_1_code
def yX3_init : MethodName := ⟨RX3, "<init>", "()V"⟩
abbrev cX3_take : ByteArray := prog_5_method_2_code
def yX3_take : MethodName := ⟨RX3, "take", "(ILPisteLine$Bout;LPisteLine$Weapon;LPisteLine$Weapon;)V"⟩
abbrev cX3_empty : ByteArray := prog_5_method_3_code
def yX3_empty : MethodName := ⟨RX3, "empty", "()V"⟩
abbrev cX3_weaponNumber : ByteArray := prog_5_method_4_code
def yX3_weaponNumber : MethodName := ⟨RX3, "weaponNumber", "(I)I"⟩
abbrev cX3_arm : ByteArray := prog_5_method_5_code
def yX3_arm : MethodName := ⟨RX3, "arm", "(ILPisteLine$Weapon;)V"⟩
def RX4 : String := "PisteLine$Tableau"
def TX4 : u_T := fun k => match k with
  | 0 => ("PisteLine$Tableau", "extent", "I", false)
  | 1 => ("PisteLine$Tableau", "goneBouts", "I", false)
  | 2 => ("PisteLine$Tableau", "seeds", "[I", true)
  | 3 => ("PisteLine$Tableau", "winners", "[I", true)
  | _ => ("PisteLine$Tableau", "bouts", "[LPisteLine$Bout;", true)
def tyX4 : Nat → FieldType := fun k => match k with
  | 0 => .int
  | 1 => .int
  | 2 => .array .int
  | 3 => .array .int
  | _ => .array (.object "PisteLine$Bout")
abbrev wsX40 : List Cond := u_ws RX4 TX4 5
theorem nmX4 : ∀ a, a < 5 → ∀ b, b < 5 → a ≠ b → (TX4 a).2.1 ≠ (TX4 b).2.1 := by decide +kernel
theorem tyX4_ok : ∀ k, k < 5 → parseFieldDescriptor (TX4 k).2.2.1 = some (tyX4 k) := by decide +kernel
abbrev cX4_init : ByteArray := prog_6_method_1_code
def yX4_init : MethodName := ⟨RX4, "<init>", "()V"⟩
abbrev cX4_isDrawn : ByteArray := prog_6_method_2_code
def yX4_isDrawn : MethodName := ⟨RX4, "isDrawn", "()Z"⟩
abbrev cX4_hasNode : ByteArray := prog_6_method_3_code
def yX4_hasNode : MethodName := ⟨RX4, "hasNode", "(I)Z"⟩
abbrev cX4_winnerAt : ByteArray := prog_6_method_4_code
def yX4_winnerAt : MethodName := ⟨RX4, "winnerAt", "(I)I"⟩
abbrev cX4_boutAt : ByteArray := prog_6_method_5_code
def yX4_boutAt : MethodName := ⟨RX4, "boutAt", "(I)LPisteLine$Bout;"⟩
abbrev cX4_lay : ByteArray := prog_6_method_6_code
def yX4_lay : MethodName := ⟨RX4, "lay", "(I)V"⟩
abbrev cX4_laySeeds : ByteArray := prog_6_method_7_code
def yX4_laySeeds : MethodName := ⟨RX4, "laySeeds", "()V"⟩
abbrev cX4_seat : ByteArray := prog_6_method_8_code
def yX4_seat : MethodName := ⟨RX4, "seat", "(II)V"⟩
abbrev cX4_recount : ByteArray := prog_6_method_9_code
def yX4_recount : MethodName := ⟨RX4, "recount", "()V"⟩
abbrev cX4_settle : ByteArray := prog_6_method_10_code
def yX4_settle : MethodName := ⟨RX4, "settle", "(LPisteLine$Piste;)V"⟩
abbrev cX4_winnerNow : ByteArray := prog_6_method_11_code
def yX4_winnerNow : MethodName := ⟨RX4, "winnerNow", "(ILPisteLine$Bout;)I"⟩
abbrev cX4_drop : ByteArray := prog_6_method_12_code
def yX4_drop : MethodName := ⟨RX4, "drop", "(LPisteLine$Bout;LPisteLine$Piste;)V"⟩
def RX5 : String := "PisteLine$Tally"
def TX5 : u_T := fun k => match k with
  | 0 => ("PisteLine$Tally", "goal", "I", false)
  | 1 => ("PisteLine$Tally", "first", "I", false)
  | _ => ("PisteLine$Tally", "second", "I", false)
def tyX5 : Nat → FieldType := fun k => match k with
  | 0 => .int
  | 1 => .int
  | _ => .int
abbrev wsX50 : List Cond := u_ws RX5 TX5 3
theorem nmX5 : ∀ a, a < 3 → ∀ b, b < 3 → a ≠ b → (TX5 a).2.1 ≠ (TX5 b).2.1 := by decide +kernel
theorem tyX5_ok : ∀ k, k < 3 → parseFieldDescriptor (TX5 k).2.2.1 = some (tyX5 k) := by decide +kernel
abbrev cX5_init : ByteArray := prog_7_method_1_code
def yX5_init : MethodName := ⟨RX5, "<init>", "()V"⟩
abbrev cX5_restart : ByteArray := prog_7_method_2_code
def yX5_restart : MethodName := ⟨RX5, "restart", "(I)V"⟩
abbrev cX5_isAtGoal : ByteArray := prog_7_method_3_code
def yX5_isAtGoal : MethodName := ⟨RX5, "isAtGoal", "()Z"⟩
abbrev cX5_add : ByteArray := prog_7_method_4_code
def yX5_add : MethodName := ⟨RX5, "add", "(I)V"⟩
abbrev cX5_of : ByteArray := prog_7_method_5_code
def yX5_of : MethodName := ⟨RX5, "of", "(I)I"⟩
def RX6 : String := "PisteLine$Weapon"
def TX6 : u_T := fun k => match k with
  | 0 => ("PisteLine$Weapon", "number", "I", true)
  | 1 => ("PisteLine$Weapon", "holder", "I", true)
  | 2 => ("PisteLine$Weapon", "state", "I", false)
  | _ => ("PisteLine$Weapon", "hasFailedInPools", "Z", false)
def tyX6 : Nat → FieldType := fun k => match k with
  | 0 => .int
  | 1 => .int
  | 2 => .int
  | _ => .boolean
abbrev wsX60 : List Cond := u_ws RX6 TX6 4
theorem nmX6 : ∀ a, a < 4 → ∀ b, b < 4 → a ≠ b → (TX6 a).2.1 ≠ (TX6 b).2.1 := by decide +kernel
theorem tyX6_ok : ∀ k, k < 4 → parseFieldDescriptor (TX6 k).2.2.1 = some (tyX6 k) := by decide +kernel
abbrev cX6_init : ByteArray := prog_8_method_1_code
def yX6_init : MethodName := ⟨RX6, "<init>", "(II)V"⟩
abbrev cX6_isMarkedFor : ByteArray := prog_8_method_2_code
def yX6_isMarkedFor : MethodName := ⟨RX6, "isMarkedFor", "(I)Z"⟩
abbrev cX6_isFalse : ByteArray := prog_8_method_3_code
def yX6_isFalse : MethodName := ⟨RX6, "isFalse", "(Z)Z"⟩
def RX7 : String := "PisteLine"
def TX7 : u_T := fun k => match k with
  | 0 => ("PisteLine", "isFoil", "Z", true)
  | 1 => ("PisteLine", "fencerRow", "[LPisteLine$Fencer;", true)
  | 2 => ("PisteLine", "fencerCount", "I", false)
  | 3 => ("PisteLine", "weaponRow", "[LPisteLine$Weapon;", true)
  | 4 => ("PisteLine", "weaponCount", "I", false)
  | 5 => ("PisteLine", "poolRow", "[LPisteLine$Bout;", true)
  | 6 => ("PisteLine", "poolBoutCount", "I", false)
  | 7 => ("PisteLine", "ground", "LPisteLine$Piste;", true)
  | 8 => ("PisteLine", "tableau", "LPisteLine$Tableau;", true)
  | _ => ("PisteLine", "tallyAnew", "LPisteLine$Tally;", true)
def tyX7 : Nat → FieldType := fun k => match k with
  | 0 => .boolean
  | 1 => .array (.object "PisteLine$Fencer")
  | 2 => .int
  | 3 => .array (.object "PisteLine$Weapon")
  | 4 => .int
  | 5 => .array (.object "PisteLine$Bout")
  | 6 => .int
  | 7 => .object "PisteLine$Piste"
  | 8 => .object "PisteLine$Tableau"
  | _ => .object "PisteLine$Tally"
abbrev wsX70 : List Cond := u_ws RX7 TX7 10
theorem nmX7 : ∀ a, a < 10 → ∀ b, b < 10 → a ≠ b → (TX7 a).2.1 ≠ (TX7 b).2.1 := by decide +kernel
theorem tyX7_ok : ∀ k, k < 10 → parseFieldDescriptor (TX7 k).2.2.1 = some (tyX7 k) := by decide +kernel
abbrev cX7_init : ByteArray := prog_1_method_1_code
def yX7_init : MethodName := ⟨RX7, "<init>", "(I)V"⟩
abbrev cX7_fencer : ByteArray := prog_1_method_2_code
def yX7_fencer : MethodName := ⟨RX7, "fencer", "()I"⟩
abbrev cX7_weapon : ByteArray := prog_1_method_3_code
def yX7_weapon : MethodName := ⟨RX7, "weapon", "(I)I"⟩
abbrev cX7_test : ByteArray := prog_1_method_4_code
def yX7_test : MethodName := ⟨RX7, "test", "(III)Z"⟩
abbrev cX7_mark : ByteArray := prog_1_method_6_code
def yX7_mark : MethodName := ⟨RX7, "mark", "(I)I"⟩
abbrev cX7_owner : ByteArray := prog_1_method_7_code
def yX7_owner : MethodName := ⟨RX7, "owner", "(I)I"⟩
abbrev cX7_begin : ByteArray := prog_1_method_8_code
def yX7_begin : MethodName := ⟨RX7, "begin", "(III)I"⟩
abbrev cX7_change : ByteArray := prog_1_method_9_code
def yX7_change : MethodName := ⟨RX7, "change", "(II)I"⟩
abbrev cX7_allez : ByteArray := prog_1_method_10_code
def yX7_allez : MethodName := ⟨RX7, "allez", "()I"⟩
abbrev cX7_contact : ByteArray := prog_1_method_11_code
def yX7_contact : MethodName := ⟨RX7, "contact", "(IZI)I"⟩
abbrev cX7_right : ByteArray := prog_1_method_12_code
def yX7_right : MethodName := ⟨RX7, "right", "(II)I"⟩
abbrev cX7_halt : ByteArray := prog_1_method_13_code
def yX7_halt : MethodName := ⟨RX7, "halt", "()I"⟩
abbrev cX7_appeal : ByteArray := prog_1_method_14_code
def yX7_appeal : MethodName := ⟨RX7, "appeal", "(II)I"⟩
abbrev cX7_piste : ByteArray := prog_1_method_15_code
def yX7_piste : MethodName := ⟨RX7, "piste", "()I"⟩
abbrev cX7_isFencing : ByteArray := prog_1_method_16_code
def yX7_isFencing : MethodName := ⟨RX7, "isFencing", "()Z"⟩
abbrev cX7_weaponOf : ByteArray := prog_1_method_17_code
def yX7_weaponOf : MethodName := ⟨RX7, "weaponOf", "(I)I"⟩
abbrev cX7_fencerOf : ByteArray := prog_1_method_18_code
def yX7_fencerOf : MethodName := ⟨RX7, "fencerOf", "(II)I"⟩
abbrev cX7_score : ByteArray := prog_1_method_19_code
def yX7_score : MethodName := ⟨RX7, "score", "(II)I"⟩
abbrev cX7_scoreAnew : ByteArray := prog_1_method_20_code
def yX7_scoreAnew : MethodName := ⟨RX7, "scoreAnew", "(II)I"⟩
abbrev cX7_winner : ByteArray := prog_1_method_21_code
def yX7_winner : MethodName := ⟨RX7, "winner", "(I)I"⟩
abbrev cX7_phrases : ByteArray := prog_1_method_22_code
def yX7_phrases : MethodName := ⟨RX7, "phrases", "(I)I"⟩
abbrev cX7_touches : ByteArray := prog_1_method_23_code
def yX7_touches : MethodName := ⟨RX7, "touches", "(II)I"⟩
abbrev cX7_appeals : ByteArray := prog_1_method_24_code
def yX7_appeals : MethodName := ⟨RX7, "appeals", "(II)I"⟩
abbrev cX7_drawPools : ByteArray := prog_1_method_25_code
def yX7_drawPools : MethodName := ⟨RX7, "drawPools", "(I)I"⟩
abbrev cX7_won : ByteArray := prog_1_method_27_code
def yX7_won : MethodName := ⟨RX7, "won", "(I)I"⟩
abbrev cX7_index : ByteArray := prog_1_method_28_code
def yX7_index : MethodName := ⟨RX7, "index", "(I)I"⟩
abbrev cX7_rankedAt : ByteArray := prog_1_method_29_code
def yX7_rankedAt : MethodName := ⟨RX7, "rankedAt", "(I)I"⟩
abbrev cX7_drawTableau : ByteArray := prog_1_method_30_code
def yX7_drawTableau : MethodName := ⟨RX7, "drawTableau", "()I"⟩
abbrev cX7_size : ByteArray := prog_1_method_31_code
def yX7_size : MethodName := ⟨RX7, "size", "()I"⟩
abbrev cX7_nodeWinner : ByteArray := prog_1_method_32_code
def yX7_nodeWinner : MethodName := ⟨RX7, "nodeWinner", "(I)I"⟩
abbrev cX7_gone : ByteArray := prog_1_method_33_code
def yX7_gone : MethodName := ⟨RX7, "gone", "()I"⟩
abbrev cX7_isSide : ByteArray := prog_1_method_34_code
def yX7_isSide : MethodName := ⟨RX7, "isSide", "(I)Z"⟩
abbrev cX7_isSideOrNone : ByteArray := prog_1_method_35_code
def yX7_isSideOrNone : MethodName := ⟨RX7, "isSideOrNone", "(I)Z"⟩
abbrev cX7_isTooEarly : ByteArray := prog_1_method_36_code
def yX7_isTooEarly : MethodName := ⟨RX7, "isTooEarly", "(I)Z"⟩
abbrev cX7_arePoolsDrawn : ByteArray := prog_1_method_37_code
def yX7_arePoolsDrawn : MethodName := ⟨RX7, "arePoolsDrawn", "()Z"⟩
abbrev cX7_fencerAt : ByteArray := prog_1_method_38_code
def yX7_fencerAt : MethodName := ⟨RX7, "fencerAt", "(I)LPisteLine$Fencer;"⟩
abbrev cX7_weaponAt : ByteArray := prog_1_method_39_code
def yX7_weaponAt : MethodName := ⟨RX7, "weaponAt", "(I)LPisteLine$Weapon;"⟩
abbrev cX7_boutAt : ByteArray := prog_1_method_40_code
def yX7_boutAt : MethodName := ⟨RX7, "boutAt", "(I)LPisteLine$Bout;"⟩
abbrev cX7_fail : ByteArray := prog_1_method_41_code
def yX7_fail : MethodName := ⟨RX7, "fail", "(LPisteLine$Weapon;)V"⟩
abbrev cX7_drawPool : ByteArray := prog_1_method_42_code
def yX7_drawPool : MethodName := ⟨RX7, "drawPool", "(II)V"⟩
abbrev cX7_poolOf : ByteArray := prog_1_method_43_code
def yX7_poolOf : MethodName := ⟨RX7, "poolOf", "(II)I"⟩
abbrev cX7_addPoolBout : ByteArray := prog_1_method_44_code
def yX7_addPoolBout : MethodName := ⟨RX7, "addPoolBout", "(II)V"⟩
abbrev cX7_isAPoolBoutOpen : ByteArray := prog_1_method_45_code
def yX7_isAPoolBoutOpen : MethodName := ⟨RX7, "isAPoolBoutOpen", "()Z"⟩
abbrev cX7_countPools : ByteArray := prog_1_method_46_code
def yX7_countPools : MethodName := ⟨RX7, "countPools", "()V"⟩
abbrev cX7_countSide : ByteArray := prog_1_method_47_code
def yX7_countSide : MethodName := ⟨RX7, "countSide", "(LPisteLine$Bout;I)V"⟩
abbrev cX7_fencerInPlace : ByteArray := prog_1_method_48_code
def yX7_fencerInPlace : MethodName := ⟨RX7, "fencerInPlace", "(I)I"⟩
abbrev cX7_fencersAhead : ByteArray := prog_1_method_49_code
def yX7_fencersAhead : MethodName := ⟨RX7, "fencersAhead", "(LPisteLine$Fencer;)I"⟩
def RX8 : String := "PisteLineModel"
def TX8 : u_T := fun k => match k with
  | _ => ("", "", "", false)
def tyX8 : Nat → FieldType := fun k => match k with
  | _ => .int
abbrev wsX80 : List Cond := u_ws RX8 TX8 0
theorem nmX8 : ∀ a, a < 0 → ∀ b, b < 0 → a ≠ b → (TX8 a).2.1 ≠ (TX8 b).2.1 := by decide +kernel
theorem tyX8_ok : ∀ k, k < 0 → parseFieldDescriptor (TX8 k).2.2.1 = some (tyX8 k) := by decide +kernel
def RJ9 : String := "java/lang/Math"
def TJ9 : u_T := fun k => match k with
  | _ => ("", "", "", false)
def tyJ9 : Nat → FieldType := fun k => match k with
  | _ => .int
abbrev wsJ90 : List Cond := u_ws RJ9 TJ9 0
theorem nmJ9 : ∀ a, a < 0 → ∀ b, b < 0 → a ≠ b → (TJ9 a).2.1 ≠ (TJ9 b).2.1 := by decide +kernel
theorem tyJ9_ok : ∀ k, k < 0 → parseFieldDescriptor (TJ9 k).2.2.1 = some (tyJ9 k) := by decide +kernel
abbrev cJ9_max_7cf53 : ByteArray := prog_15_method_65_code
def yJ9_max_7cf53 : MethodName := ⟨RJ9, "max", "(II)I"⟩
def RJ0 : String := "java/lang/String"
def TJ0 : u_T := fun k => match k with
  | _ => ("", "", "", false)
def tyJ0 : Nat → FieldType := fun k => match k with
  | _ => .int
abbrev wsJ00 : List Cond := u_ws RJ0 TJ0 0
theorem nmJ0 : ∀ a, a < 0 → ∀ b, b < 0 → a ≠ b → (TJ0 a).2.1 ≠ (TJ0 b).2.1 := by decide +kernel
theorem tyJ0_ok : ∀ k, k < 0 → parseFieldDescriptor (TJ0 k).2.2.1 = some (tyJ0 k) := by decide +kernel
def RL : String := "PisteLineLaw"
abbrev cL_from : ByteArray := method_2_code
def yL_from : MethodName := ⟨RL, "from", "([III)I"⟩
abbrev cL_number : ByteArray := method_3_code
def yL_number : MethodName := ⟨RL, "number", "(I)I"⟩
abbrev cL_bits : ByteArray := method_4_code
def yL_bits : MethodName := ⟨RL, "bits", "([JIIII)I"⟩
abbrev cL_judge : ByteArray := method_5_code
def yL_judge : MethodName := ⟨RL, "judge", "([I[I[II)I"⟩
abbrev cL_strikes : ByteArray := method_6_code
def yL_strikes : MethodName := ⟨RL, "strikes", "([IIZ)Z"⟩
abbrev cL_touches : ByteArray := method_7_code
def yL_touches : MethodName := ⟨RL, "touches", "([I[JII)I"⟩
abbrev cL_told : ByteArray := method_8_code
def yL_told : MethodName := ⟨RL, "told", "([I[J[II)I"⟩
abbrev cL_fencer : ByteArray := method_9_code
def yL_fencer : MethodName := ⟨RL, "fencer", "([III)I"⟩
abbrev cL_winner : ByteArray := method_10_code
def yL_winner : MethodName := ⟨RL, "winner", "([I[J[I[II)I"⟩
abbrev cL_follow : ByteArray := method_11_code
def yL_follow : MethodName := ⟨RL, "follow", "([I[J[I[I[I[I)V"⟩
abbrev cL_sum : ByteArray := method_12_code
def yL_sum : MethodName := ⟨RL, "sum", "([I[J[I[IIZ)I"⟩
abbrev cL_isAhead : ByteArray := method_13_code
def yL_isAhead : MethodName := ⟨RL, "isAhead", "([I[J[I[III)Z"⟩
abbrev cL_ranked : ByteArray := method_14_code
def yL_ranked : MethodName := ⟨RL, "ranked", "([I[J[I[II)I"⟩
abbrev cL_isTold : ByteArray := method_15_code
def yL_isTold : MethodName := ⟨RL, "isTold", "(LPisteLine;[I[J[I[I[I[II)Z"⟩
abbrev cL_begun : ByteArray := method_16_code
def yL_begun : MethodName := ⟨RL, "begun", "(LPisteLine;III)I"⟩
abbrev cL_tested : ByteArray := method_17_code
def yL_tested : MethodName := ⟨RL, "tested", "(LPisteLine;III)I"⟩
abbrev cL_changed : ByteArray := method_18_code
def yL_changed : MethodName := ⟨RL, "changed", "(LPisteLine;II)I"⟩
abbrev cL_allez : ByteArray := method_19_code
def yL_allez : MethodName := ⟨RL, "allez", "(LPisteLine;)I"⟩
abbrev cL_heard : ByteArray := method_20_code
def yL_heard : MethodName := ⟨RL, "heard", "(LPisteLine;II)I"⟩
abbrev cL_halted : ByteArray := method_21_code
def yL_halted : MethodName := ⟨RL, "halted", "(LPisteLine;)I"⟩
abbrev cL_appealed : ByteArray := method_22_code
def yL_appealed : MethodName := ⟨RL, "appealed", "(LPisteLine;II)I"⟩
abbrev cL_drawn : ByteArray := method_23_code
def yL_drawn : MethodName := ⟨RL, "drawn", "(LPisteLine;)I"⟩
abbrev cL_armed : ByteArray := method_24_code
def yL_armed : MethodName := ⟨RL, "armed", "(LPisteLine;[I[III)I"⟩
abbrev cL_isBegun : ByteArray := method_25_code
def yL_isBegun : MethodName := ⟨RL, "isBegun", "(LPisteLine;[I[J[I[I[II)Z"⟩
abbrev cL_isFenced : ByteArray := method_26_code
def yL_isFenced : MethodName := ⟨RL, "isFenced", "(LPisteLine;[I[J[I[I[I[I[I[I[III)Z"⟩
abbrev cL_isAppealed : ByteArray := method_27_code
def yL_isAppealed : MethodName := ⟨RL, "isAppealed", "(LPisteLine;[I[J[I[I[I[II)Z"⟩
abbrev cL_acts : ByteArray := method_28_code
def yL_acts : MethodName := ⟨RL, "acts", "(LPisteLine;[I[J[I[I[I[I[I[I[IIII)Z"⟩
abbrev cL_holds : ByteArray := method_29_code
def yL_holds : MethodName := ⟨RL, "holds", "([I)Z"⟩
abbrev cL_isHeld : ByteArray := method_30_code
def yL_isHeld : MethodName := ⟨RL, "isHeld", "([I)Z"⟩
abbrev cL_law : ByteArray := code
def yL_law : MethodName := ⟨RL, "law", "([I)Z"⟩
abbrev vwCl : List vw_C := [(RX0, TX0, 8), (RX1, TX1, 5), (RX2, TX2, 10), (RX3, TX3, 6), (RX4, TX4, 5), (RX5, TX5, 3), (RX6, TX6, 4), (RX7, TX7, 10)]
/-- the texts of the exceptions -/
def strL : List (Nat × String) := [(62, "the hall is full, or the pools are drawn"), (76, "no such fencer"), (82, "there are as many weapons as there may be"), (91, "no such weapon"), (95, "weight or travel is out of range"), (105, "the weapon has failed, or a phrase is on"), (118, "no such bout or weapon"), (123, "a phrase is on, or the bout can't be fenced"), (135, "a weapon is not marked, or of another fencer"), (147, "no such side or weapon"), (153, "the piste is empty, or a phrase is on"), (158, "the weapon is not marked, or of another fencer"), (172, "the bout is decided, or a weapon is not marked"), (179, "no such side"), (184, "the time is below 0, or of the event ahead"), (189, "no phrase is on, or it is full"), (201, "the side or the time is out of range"), (203, "no phrase is on"), (227, "the right is out of range"), (229, "there is no phrase to appeal as to"), (238, "the side has no appeal left"), (252, "no such bout or side"), (264, "no such bout"), (275, "no such phrase has ended"), (277, "the number of pools is out of range"), (279, "the pools are drawn, or one would be too small"), (296, "no such place"), (304, "the pools are not drawn, or a bout of them is open"), (309, "the tableau is drawn, or a phrase is on"), (326, "no such node")]
end
section
theorem dX0_init_0 : decode cX0_init 0 = .ok (.aload_n 0, 1) := by decide +kernel
theorem dX0_init_1 : decode cX0_init 1 = .ok (.invokespecial 3, 3) := by decide +kernel
theorem dX0_init_4 : decode cX0_init 4 = .ok (.aload_n 0, 1) := by decide +kernel
theorem dX0_init_5 : decode cX0_init 5 = .ok (.bipush 12, 2) := by decide +kernel
theorem dX0_init_7 : decode cX0_init 7 = .ok (.anewarray 9, 3) := by decide +kernel
theorem dX0_init_10 : decode cX0_init 10 = .ok (.putfield 11, 3) := by decide +kernel
theorem dX0_init_13 : decode cX0_init 13 = .ok (.aload_n 0, 1) := by decide +kernel
theorem dX0_init_14 : decode cX0_init 14 = .ok (.iconst 2, 1) := by decide +kernel
theorem dX0_init_15 : decode cX0_init 15 = .ok (.putfield 17, 3) := by decide +kernel
theorem dX0_init_18 : decode cX0_init 18 = .ok (.aload_n 0, 1) := by decide +kernel
theorem dX0_init_19 : decode cX0_init 19 = .ok (.iconst 2, 1) := by decide +kernel
theorem dX0_init_20 : decode cX0_init 20 = .ok (.putfield 21, 3) := by decide +kernel
theorem dX0_init_23 : decode cX0_init 23 = .ok (.aload_n 0, 1) := by decide +kernel
theorem dX0_init_24 : decode cX0_init 24 = .ok (.new 24, 3) := by decide +kernel
theorem dX0_init_27 : decode cX0_init 27 = .ok (.dup, 1) := by decide +kernel
theorem dX0_init_28 : decode cX0_init 28 = .ok (.invokespecial 26, 3) := by decide +kernel
theorem dX0_init_31 : decode cX0_init 31 = .ok (.putfield 27, 3) := by decide +kernel
theorem dX0_init_34 : decode cX0_init 34 = .ok (.aload_n 0, 1) := by decide +kernel
theorem dX0_init_35 : decode cX0_init 35 = .ok (.iload_n 1, 1) := by decide +kernel
theorem dX0_init_36 : decode cX0_init 36 = .ok (.putfield 31, 3) := by decide +kernel
theorem dX0_init_39 : decode cX0_init 39 = .ok (.aload_n 0, 1) := by decide +kernel
theorem dX0_init_40 : decode cX0_init 40 = .ok (.iload_n 2, 1) := by decide +kernel
theorem dX0_init_41 : decode cX0_init 41 = .ok (.putfield 35, 3) := by decide +kernel
theorem dX0_init_44 : decode cX0_init 44 = .ok (.aload_n 0, 1) := by decide +kernel
theorem dX0_init_45 : decode cX0_init 45 = .ok (.iload_n 3, 1) := by decide +kernel
theorem dX0_init_46 : decode cX0_init 46 = .ok (.putfield 38, 3) := by decide +kernel
theorem dX0_init_49 : decode cX0_init 49 = .ok (.aload_n 0, 1) := by decide +kernel
theorem dX0_init_50 : decode cX0_init 50 = .ok (.getfield 27, 3) := by decide +kernel
theorem dX0_init_53 : decode cX0_init 53 = .ok (.iload_n 1, 1) := by decide +kernel
theorem dX0_init_54 : decode cX0_init 54 = .ok (.ifCond .eq 7, 3) := by decide +kernel
theorem dX0_init_57 : decode cX0_init 57 = .ok (.iconst 3, 1) := by decide +kernel
theorem dX0_init_58 : decode cX0_init 58 = .ok (.goto 4, 3) := by decide +kernel
theorem dX0_init_61 : decode cX0_init 61 = .ok (.iconst 5, 1) := by decide +kernel
theorem dX0_init_62 : decode cX0_init 62 = .ok (.invokevirtual 41, 3) := by decide +kernel
theorem dX0_init_65 : decode cX0_init 65 = .ok (.return_, 1) := by decide +kernel
theorem dX0_fencerAt_0 : decode cX0_fencerAt 0 = .ok (.iload_n 1, 1) := by decide +kernel
theorem dX0_fencerAt_1 : decode cX0_fencerAt 1 = .ok (.ifCond .ne 10, 3) := by decide +kernel
theorem dX0_fencerAt_4 : decode cX0_fencerAt 4 = .ok (.aload_n 0, 1) := by decide +kernel
theorem dX0_fencerAt_5 : decode cX0_fencerAt 5 = .ok (.getfield 35, 3) := by decide +kernel
theorem dX0_fencerAt_8 : decode cX0_fencerAt 8 = .ok (.goto 7, 3) := by decide +kernel
theorem dX0_fencerAt_11 : decode cX0_fencerAt 11 = .ok (.aload_n 0, 1) := by decide +kernel
theorem dX0_fencerAt_12 : decode cX0_fencerAt 12 = .ok (.getfield 38, 3) := by decide +kernel
theorem dX0_fencerAt_15 : decode cX0_fencerAt 15 = .ok (.ireturn, 1) := by decide +kernel
theorem dX0_phraseAt_0 : decode cX0_phraseAt 0 = .ok (.iload_n 1, 1) := by decide +kernel
theorem dX0_phraseAt_1 : decode cX0_phraseAt 1 = .ok (.ifCond .lt 26, 3) := by decide +kernel
theorem dX0_phraseAt_4 : decode cX0_phraseAt 4 = .ok (.iload_n 1, 1) := by decide +kernel
theorem dX0_phraseAt_5 : decode cX0_phraseAt 5 = .ok (.aload_n 0, 1) := by decide +kernel
theorem dX0_phraseAt_6 : decode cX0_phraseAt 6 = .ok (.getfield 45, 3) := by decide +kernel
theorem dX0_phraseAt_9 : decode cX0_phraseAt 9 = .ok (.if_icmp .ge 18, 3) := by decide +kernel
theorem dX0_phraseAt_12 : decode cX0_phraseAt 12 = .ok (.iload_n 1, 1) := by decide +kernel
theorem dX0_phraseAt_13 : decode cX0_phraseAt 13 = .ok (.bipush 12, 2) := by decide +kernel
theorem dX0_phraseAt_15 : decode cX0_phraseAt 15 = .ok (.if_icmp .ge 12, 3) := by decide +kernel
theorem dX0_phraseAt_18 : decode cX0_phraseAt 18 = .ok (.aload_n 0, 1) := by decide +kernel
theorem dX0_phraseAt_19 : decode cX0_phraseAt 19 = .ok (.getfield 11, 3) := by decide +kernel
theorem dX0_phraseAt_22 : decode cX0_phraseAt 22 = .ok (.iload_n 1, 1) := by decide +kernel
theorem dX0_phraseAt_23 : decode cX0_phraseAt 23 = .ok (.aaload, 1) := by decide +kernel
theorem dX0_phraseAt_24 : decode cX0_phraseAt 24 = .ok (.goto 4, 3) := by decide +kernel
theorem dX0_phraseAt_27 : decode cX0_phraseAt 27 = .ok (.aconst_null, 1) := by decide +kernel
theorem dX0_phraseAt_28 : decode cX0_phraseAt 28 = .ok (.areturn, 1) := by decide +kernel
theorem dX0_keep_0 : decode cX0_keep 0 = .ok (.aload_n 0, 1) := by decide +kernel
theorem dX0_keep_1 : decode cX0_keep 1 = .ok (.getfield 45, 3) := by decide +kernel
theorem dX0_keep_4 : decode cX0_keep 4 = .ok (.ifCond .lt 12, 3) := by decide +kernel
theorem dX0_keep_7 : decode cX0_keep 7 = .ok (.aload_n 0, 1) := by decide +kernel
theorem dX0_keep_8 : decode cX0_keep 8 = .ok (.getfield 45, 3) := by decide +kernel
theorem dX0_keep_11 : decode cX0_keep 11 = .ok (.bipush 12, 2) := by decide +kernel
theorem dX0_keep_13 : decode cX0_keep 13 = .ok (.if_icmp .lt 4, 3) := by decide +kernel
theorem dX0_keep_16 : decode cX0_keep 16 = .ok (.return_, 1) := by decide +kernel
theorem dX0_keep_17 : decode cX0_keep 17 = .ok (.aload_n 0, 1) := by decide +kernel
theorem dX0_keep_18 : decode cX0_keep 18 = .ok (.getfield 11, 3) := by decide +kernel
theorem dX0_keep_21 : decode cX0_keep 21 = .ok (.aload_n 0, 1) := by decide +kernel
theorem dX0_keep_22 : decode cX0_keep 22 = .ok (.getfield 45, 3) := by decide +kernel
theorem dX0_keep_25 : decode cX0_keep 25 = .ok (.aload_n 1, 1) := by decide +kernel
theorem dX0_keep_26 : decode cX0_keep 26 = .ok (.aastore, 1) := by decide +kernel
theorem dX0_keep_27 : decode cX0_keep 27 = .ok (.aload_n 0, 1) := by decide +kernel
theorem dX0_keep_28 : decode cX0_keep 28 = .ok (.dup, 1) := by decide +kernel
theorem dX0_keep_29 : decode cX0_keep 29 = .ok (.getfield 45, 3) := by decide +kernel
theorem dX0_keep_32 : decode cX0_keep 32 = .ok (.iconst 1, 1) := by decide +kernel
theorem dX0_keep_33 : decode cX0_keep 33 = .ok (.iadd, 1) := by decide +kernel
theorem dX0_keep_34 : decode cX0_keep 34 = .ok (.putfield 45, 3) := by decide +kernel
theorem dX0_keep_37 : decode cX0_keep 37 = .ok (.aload_n 0, 1) := by decide +kernel
theorem dX0_keep_38 : decode cX0_keep 38 = .ok (.invokevirtual 48, 3) := by decide +kernel
theorem dX0_keep_41 : decode cX0_keep 41 = .ok (.return_, 1) := by decide +kernel
theorem dX0_forget_0 : decode cX0_forget 0 = .ok (.iconst 0, 1) := by decide +kernel
theorem dX0_forget_1 : decode cX0_forget 1 = .ok (.istore_n 1, 1) := by decide +kernel
theorem dX0_forget_2 : decode cX0_forget 2 = .ok (.iload_n 1, 1) := by decide +kernel
theorem dX0_forget_3 : decode cX0_forget 3 = .ok (.bipush 12, 2) := by decide +kernel
theorem dX0_forget_5 : decode cX0_forget 5 = .ok (.if_icmp .ge 16, 3) := by decide +kernel
theorem dX0_forget_8 : decode cX0_forget 8 = .ok (.aload_n 0, 1) := by decide +kernel
theorem dX0_forget_9 : decode cX0_forget 9 = .ok (.getfield 11, 3) := by decide +kernel
theorem dX0_forget_12 : decode cX0_forget 12 = .ok (.iload_n 1, 1) := by decide +kernel
theorem dX0_forget_13 : decode cX0_forget 13 = .ok (.aconst_null, 1) := by decide +kernel
theorem dX0_forget_14 : decode cX0_forget 14 = .ok (.aastore, 1) := by decide +kernel
theorem dX0_forget_15 : decode cX0_forget 15 = .ok (.iinc 1 1, 3) := by decide +kernel
theorem dX0_forget_18 : decode cX0_forget 18 = .ok (.goto (-16), 3) := by decide +kernel
theorem dX0_forget_21 : decode cX0_forget 21 = .ok (.aload_n 0, 1) := by decide +kernel
theorem dX0_forget_22 : decode cX0_forget 22 = .ok (.iconst 0, 1) := by decide +kernel
theorem dX0_forget_23 : decode cX0_forget 23 = .ok (.putfield 45, 3) := by decide +kernel
theorem dX0_forget_26 : decode cX0_forget 26 = .ok (.aload_n 0, 1) := by decide +kernel
theorem dX0_forget_27 : decode cX0_forget 27 = .ok (.iconst 2, 1) := by decide +kernel
theorem dX0_forget_28 : decode cX0_forget 28 = .ok (.putfield 17, 3) := by decide +kernel
theorem dX0_forget_31 : decode cX0_forget 31 = .ok (.aload_n 0, 1) := by decide +kernel
theorem dX0_forget_32 : decode cX0_forget 32 = .ok (.iconst 2, 1) := by decide +kernel
theorem dX0_forget_33 : decode cX0_forget 33 = .ok (.putfield 21, 3) := by decide +kernel
theorem dX0_forget_36 : decode cX0_forget 36 = .ok (.aload_n 0, 1) := by decide +kernel
theorem dX0_forget_37 : decode cX0_forget 37 = .ok (.getfield 27, 3) := by decide +kernel
theorem dX0_forget_40 : decode cX0_forget 40 = .ok (.aload_n 0, 1) := by decide +kernel
theorem dX0_forget_41 : decode cX0_forget 41 = .ok (.getfield 27, 3) := by decide +kernel
theorem dX0_forget_44 : decode cX0_forget 44 = .ok (.getfield 51, 3) := by decide +kernel
theorem dX0_forget_47 : decode cX0_forget 47 = .ok (.invokevirtual 41, 3) := by decide +kernel
theorem dX0_forget_50 : decode cX0_forget 50 = .ok (.return_, 1) := by decide +kernel
theorem dX0_touchesLeft_0 : decode cX0_touchesLeft 0 = .ok (.aload_n 1, 1) := by decide +kernel
theorem dX0_touchesLeft_1 : decode cX0_touchesLeft 1 = .ok (.aload_n 1, 1) := by decide +kernel
theorem dX0_touchesLeft_2 : decode cX0_touchesLeft 2 = .ok (.getfield 54, 3) := by decide +kernel
theorem dX0_touchesLeft_5 : decode cX0_touchesLeft 5 = .ok (.aload_n 0, 1) := by decide +kernel
theorem dX0_touchesLeft_6 : decode cX0_touchesLeft 6 = .ok (.getfield 31, 3) := by decide +kernel
theorem dX0_touchesLeft_9 : decode cX0_touchesLeft 9 = .ok (.invokevirtual 57, 3) := by decide +kernel
theorem dX0_touchesLeft_12 : decode cX0_touchesLeft 12 = .ok (.ireturn, 1) := by decide +kernel
theorem dX0_recount_0 : decode cX0_recount 0 = .ok (.aload_n 0, 1) := by decide +kernel
theorem dX0_recount_1 : decode cX0_recount 1 = .ok (.getfield 27, 3) := by decide +kernel
theorem dX0_recount_4 : decode cX0_recount 4 = .ok (.aload_n 0, 1) := by decide +kernel
theorem dX0_recount_5 : decode cX0_recount 5 = .ok (.getfield 27, 3) := by decide +kernel
theorem dX0_recount_8 : decode cX0_recount 8 = .ok (.getfield 51, 3) := by decide +kernel
theorem dX0_recount_11 : decode cX0_recount 11 = .ok (.invokevirtual 41, 3) := by decide +kernel
theorem dX0_recount_14 : decode cX0_recount 14 = .ok (.iconst 0, 1) := by decide +kernel
theorem dX0_recount_15 : decode cX0_recount 15 = .ok (.istore_n 1, 1) := by decide +kernel
theorem dX0_recount_16 : decode cX0_recount 16 = .ok (.iload_n 1, 1) := by decide +kernel
theorem dX0_recount_17 : decode cX0_recount 17 = .ok (.aload_n 0, 1) := by decide +kernel
theorem dX0_recount_18 : decode cX0_recount 18 = .ok (.getfield 45, 3) := by decide +kernel
theorem dX0_recount_21 : decode cX0_recount 21 = .ok (.if_icmp .ge 31, 3) := by decide +kernel
theorem dX0_recount_24 : decode cX0_recount 24 = .ok (.aload_n 0, 1) := by decide +kernel
theorem dX0_recount_25 : decode cX0_recount 25 = .ok (.iload_n 1, 1) := by decide +kernel
theorem dX0_recount_26 : decode cX0_recount 26 = .ok (.invokevirtual 61, 3) := by decide +kernel
theorem dX0_recount_29 : decode cX0_recount 29 = .ok (.astore_n 2, 1) := by decide +kernel
theorem dX0_recount_30 : decode cX0_recount 30 = .ok (.aload_n 2, 1) := by decide +kernel
theorem dX0_recount_31 : decode cX0_recount 31 = .ok (.ifnull 15, 3) := by decide +kernel
theorem dX0_recount_34 : decode cX0_recount 34 = .ok (.aload_n 0, 1) := by decide +kernel
theorem dX0_recount_35 : decode cX0_recount 35 = .ok (.getfield 27, 3) := by decide +kernel
theorem dX0_recount_38 : decode cX0_recount 38 = .ok (.aload_n 0, 1) := by decide +kernel
theorem dX0_recount_39 : decode cX0_recount 39 = .ok (.aload_n 2, 1) := by decide +kernel
theorem dX0_recount_40 : decode cX0_recount 40 = .ok (.invokevirtual 65, 3) := by decide +kernel
theorem dX0_recount_43 : decode cX0_recount 43 = .ok (.invokevirtual 69, 3) := by decide +kernel
theorem dX0_recount_46 : decode cX0_recount 46 = .ok (.iinc 1 1, 3) := by decide +kernel
theorem dX0_recount_49 : decode cX0_recount 49 = .ok (.goto (-33), 3) := by decide +kernel
theorem dX0_recount_52 : decode cX0_recount 52 = .ok (.return_, 1) := by decide +kernel
theorem dX0_countAnew_0 : decode cX0_countAnew 0 = .ok (.aload_n 1, 1) := by decide +kernel
theorem dX0_countAnew_1 : decode cX0_countAnew 1 = .ok (.aload_n 0, 1) := by decide +kernel
theorem dX0_countAnew_2 : decode cX0_countAnew 2 = .ok (.getfield 27, 3) := by decide +kernel
theorem dX0_countAnew_5 : decode cX0_countAnew 5 = .ok (.getfield 51, 3) := by decide +kernel
theorem dX0_countAnew_8 : decode cX0_countAnew 8 = .ok (.invokevirtual 41, 3) := by decide +kernel
theorem dX0_countAnew_11 : decode cX0_countAnew 11 = .ok (.iconst 0, 1) := by decide +kernel
theorem dX0_countAnew_12 : decode cX0_countAnew 12 = .ok (.istore_n 2, 1) := by decide +kernel
theorem dX0_countAnew_13 : decode cX0_countAnew 13 = .ok (.iload_n 2, 1) := by decide +kernel
theorem dX0_countAnew_14 : decode cX0_countAnew 14 = .ok (.aload_n 0, 1) := by decide +kernel
theorem dX0_countAnew_15 : decode cX0_countAnew 15 = .ok (.getfield 45, 3) := by decide +kernel
theorem dX0_countAnew_18 : decode cX0_countAnew 18 = .ok (.if_icmp .ge 35, 3) := by decide +kernel
theorem dX0_countAnew_21 : decode cX0_countAnew 21 = .ok (.aload_n 0, 1) := by decide +kernel
theorem dX0_countAnew_22 : decode cX0_countAnew 22 = .ok (.iload_n 2, 1) := by decide +kernel
theorem dX0_countAnew_23 : decode cX0_countAnew 23 = .ok (.invokevirtual 61, 3) := by decide +kernel
theorem dX0_countAnew_26 : decode cX0_countAnew 26 = .ok (.astore_n 3, 1) := by decide +kernel
theorem dX0_countAnew_27 : decode cX0_countAnew 27 = .ok (.aload_n 3, 1) := by decide +kernel
theorem dX0_countAnew_28 : decode cX0_countAnew 28 = .ok (.ifnull 19, 3) := by decide +kernel
theorem dX0_countAnew_31 : decode cX0_countAnew 31 = .ok (.aload_n 1, 1) := by decide +kernel
theorem dX0_countAnew_32 : decode cX0_countAnew 32 = .ok (.aload_n 3, 1) := by decide +kernel
theorem dX0_countAnew_33 : decode cX0_countAnew 33 = .ok (.aload_n 3, 1) := by decide +kernel
theorem dX0_countAnew_34 : decode cX0_countAnew 34 = .ok (.invokevirtual 72, 3) := by decide +kernel
theorem dX0_countAnew_37 : decode cX0_countAnew 37 = .ok (.aload_n 0, 1) := by decide +kernel
theorem dX0_countAnew_38 : decode cX0_countAnew 38 = .ok (.getfield 31, 3) := by decide +kernel
theorem dX0_countAnew_41 : decode cX0_countAnew 41 = .ok (.invokevirtual 57, 3) := by decide +kernel
theorem dX0_countAnew_44 : decode cX0_countAnew 44 = .ok (.invokevirtual 69, 3) := by decide +kernel
theorem dX0_countAnew_47 : decode cX0_countAnew 47 = .ok (.iinc 2 1, 3) := by decide +kernel
theorem dX0_countAnew_50 : decode cX0_countAnew 50 = .ok (.goto (-37), 3) := by decide +kernel
theorem dX0_countAnew_53 : decode cX0_countAnew 53 = .ok (.return_, 1) := by decide +kernel
theorem dX0_appealsLeft_0 : decode cX0_appealsLeft 0 = .ok (.iload_n 1, 1) := by decide +kernel
theorem dX0_appealsLeft_1 : decode cX0_appealsLeft 1 = .ok (.ifCond .ne 10, 3) := by decide +kernel
theorem dX0_appealsLeft_4 : decode cX0_appealsLeft 4 = .ok (.aload_n 0, 1) := by decide +kernel
theorem dX0_appealsLeft_5 : decode cX0_appealsLeft 5 = .ok (.getfield 17, 3) := by decide +kernel
theorem dX0_appealsLeft_8 : decode cX0_appealsLeft 8 = .ok (.goto 7, 3) := by decide +kernel
theorem dX0_appealsLeft_11 : decode cX0_appealsLeft 11 = .ok (.aload_n 0, 1) := by decide +kernel
theorem dX0_appealsLeft_12 : decode cX0_appealsLeft 12 = .ok (.getfield 21, 3) := by decide +kernel
theorem dX0_appealsLeft_15 : decode cX0_appealsLeft 15 = .ok (.ireturn, 1) := by decide +kernel
theorem dX0_useAppeal_0 : decode cX0_useAppeal 0 = .ok (.iload_n 1, 1) := by decide +kernel
theorem dX0_useAppeal_1 : decode cX0_useAppeal 1 = .ok (.ifCond .ne 16, 3) := by decide +kernel
theorem dX0_useAppeal_4 : decode cX0_useAppeal 4 = .ok (.aload_n 0, 1) := by decide +kernel
theorem dX0_useAppeal_5 : decode cX0_useAppeal 5 = .ok (.dup, 1) := by decide +kernel
theorem dX0_useAppeal_6 : decode cX0_useAppeal 6 = .ok (.getfield 17, 3) := by decide +kernel
theorem dX0_useAppeal_9 : decode cX0_useAppeal 9 = .ok (.iconst 1, 1) := by decide +kernel
theorem dX0_useAppeal_10 : decode cX0_useAppeal 10 = .ok (.isub, 1) := by decide +kernel
theorem dX0_useAppeal_11 : decode cX0_useAppeal 11 = .ok (.putfield 17, 3) := by decide +kernel
theorem dX0_useAppeal_14 : decode cX0_useAppeal 14 = .ok (.goto 13, 3) := by decide +kernel
theorem dX0_useAppeal_17 : decode cX0_useAppeal 17 = .ok (.aload_n 0, 1) := by decide +kernel
theorem dX0_useAppeal_18 : decode cX0_useAppeal 18 = .ok (.dup, 1) := by decide +kernel
theorem dX0_useAppeal_19 : decode cX0_useAppeal 19 = .ok (.getfield 21, 3) := by decide +kernel
theorem dX0_useAppeal_22 : decode cX0_useAppeal 22 = .ok (.iconst 1, 1) := by decide +kernel
theorem dX0_useAppeal_23 : decode cX0_useAppeal 23 = .ok (.isub, 1) := by decide +kernel
theorem dX0_useAppeal_24 : decode cX0_useAppeal 24 = .ok (.putfield 21, 3) := by decide +kernel
theorem dX0_useAppeal_27 : decode cX0_useAppeal 27 = .ok (.return_, 1) := by decide +kernel
theorem dX0_winningSide_0 : decode cX0_winningSide 0 = .ok (.aload_n 0, 1) := by decide +kernel
theorem dX0_winningSide_1 : decode cX0_winningSide 1 = .ok (.getfield 27, 3) := by decide +kernel
theorem dX0_winningSide_4 : decode cX0_winningSide 4 = .ok (.invokevirtual 76, 3) := by decide +kernel
theorem dX0_winningSide_7 : decode cX0_winningSide 7 = .ok (.ifCond .ne 12, 3) := by decide +kernel
theorem dX0_winningSide_10 : decode cX0_winningSide 10 = .ok (.aload_n 0, 1) := by decide +kernel
theorem dX0_winningSide_11 : decode cX0_winningSide 11 = .ok (.getfield 45, 3) := by decide +kernel
theorem dX0_winningSide_14 : decode cX0_winningSide 14 = .ok (.bipush 12, 2) := by decide +kernel
theorem dX0_winningSide_16 : decode cX0_winningSide 16 = .ok (.if_icmp .lt 26, 3) := by decide +kernel
theorem dX0_winningSide_19 : decode cX0_winningSide 19 = .ok (.aload_n 0, 1) := by decide +kernel
theorem dX0_winningSide_20 : decode cX0_winningSide 20 = .ok (.getfield 27, 3) := by decide +kernel
theorem dX0_winningSide_23 : decode cX0_winningSide 23 = .ok (.getfield 80, 3) := by decide +kernel
theorem dX0_winningSide_26 : decode cX0_winningSide 26 = .ok (.aload_n 0, 1) := by decide +kernel
theorem dX0_winningSide_27 : decode cX0_winningSide 27 = .ok (.getfield 27, 3) := by decide +kernel
theorem dX0_winningSide_30 : decode cX0_winningSide 30 = .ok (.getfield 81, 3) := by decide +kernel
theorem dX0_winningSide_33 : decode cX0_winningSide 33 = .ok (.if_icmp .le 7, 3) := by decide +kernel
theorem dX0_winningSide_36 : decode cX0_winningSide 36 = .ok (.iconst 1, 1) := by decide +kernel
theorem dX0_winningSide_37 : decode cX0_winningSide 37 = .ok (.goto 4, 3) := by decide +kernel
theorem dX0_winningSide_40 : decode cX0_winningSide 40 = .ok (.iconst 0, 1) := by decide +kernel
theorem dX0_winningSide_41 : decode cX0_winningSide 41 = .ok (.ireturn, 1) := by decide +kernel
theorem dX0_winningSide_42 : decode cX0_winningSide 42 = .ok (.iconst (-1), 1) := by decide +kernel
theorem dX0_winningSide_43 : decode cX0_winningSide 43 = .ok (.ireturn, 1) := by decide +kernel
theorem dX0_winningFencer_0 : decode cX0_winningFencer 0 = .ok (.aload_n 0, 1) := by decide +kernel
theorem dX0_winningFencer_1 : decode cX0_winningFencer 1 = .ok (.invokevirtual 82, 3) := by decide +kernel
theorem dX0_winningFencer_4 : decode cX0_winningFencer 4 = .ok (.istore_n 1, 1) := by decide +kernel
theorem dX0_winningFencer_5 : decode cX0_winningFencer 5 = .ok (.iload_n 1, 1) := by decide +kernel
theorem dX0_winningFencer_6 : decode cX0_winningFencer 6 = .ok (.iconst (-1), 1) := by decide +kernel
theorem dX0_winningFencer_7 : decode cX0_winningFencer 7 = .ok (.if_icmp .ne 7, 3) := by decide +kernel
theorem dX0_winningFencer_10 : decode cX0_winningFencer 10 = .ok (.iconst (-1), 1) := by decide +kernel
theorem dX0_winningFencer_11 : decode cX0_winningFencer 11 = .ok (.goto 8, 3) := by decide +kernel
theorem dX0_winningFencer_14 : decode cX0_winningFencer 14 = .ok (.aload_n 0, 1) := by decide +kernel
theorem dX0_winningFencer_15 : decode cX0_winningFencer 15 = .ok (.iload_n 1, 1) := by decide +kernel
theorem dX0_winningFencer_16 : decode cX0_winningFencer 16 = .ok (.invokevirtual 85, 3) := by decide +kernel
theorem dX0_winningFencer_19 : decode cX0_winningFencer 19 = .ok (.ireturn, 1) := by decide +kernel
theorem dX0_canBeFenced_0 : decode cX0_canBeFenced 0 = .ok (.aload_n 0, 1) := by decide +kernel
theorem dX0_canBeFenced_1 : decode cX0_canBeFenced 1 = .ok (.getfield 35, 3) := by decide +kernel
theorem dX0_canBeFenced_4 : decode cX0_canBeFenced 4 = .ok (.iconst (-1), 1) := by decide +kernel
theorem dX0_canBeFenced_5 : decode cX0_canBeFenced 5 = .ok (.if_icmp .eq 23, 3) := by decide +kernel
theorem dX0_canBeFenced_8 : decode cX0_canBeFenced 8 = .ok (.aload_n 0, 1) := by decide +kernel
theorem dX0_canBeFenced_9 : decode cX0_canBeFenced 9 = .ok (.getfield 38, 3) := by decide +kernel
theorem dX0_canBeFenced_12 : decode cX0_canBeFenced 12 = .ok (.iconst (-1), 1) := by decide +kernel
theorem dX0_canBeFenced_13 : decode cX0_canBeFenced 13 = .ok (.if_icmp .eq 15, 3) := by decide +kernel
theorem dX0_canBeFenced_16 : decode cX0_canBeFenced 16 = .ok (.aload_n 0, 1) := by decide +kernel
theorem dX0_canBeFenced_17 : decode cX0_canBeFenced 17 = .ok (.invokevirtual 82, 3) := by decide +kernel
theorem dX0_canBeFenced_20 : decode cX0_canBeFenced 20 = .ok (.iconst (-1), 1) := by decide +kernel
theorem dX0_canBeFenced_21 : decode cX0_canBeFenced 21 = .ok (.if_icmp .ne 7, 3) := by decide +kernel
theorem dX0_canBeFenced_24 : decode cX0_canBeFenced 24 = .ok (.iconst 1, 1) := by decide +kernel
theorem dX0_canBeFenced_25 : decode cX0_canBeFenced 25 = .ok (.goto 4, 3) := by decide +kernel
theorem dX0_canBeFenced_28 : decode cX0_canBeFenced 28 = .ok (.iconst 0, 1) := by decide +kernel
theorem dX0_canBeFenced_29 : decode cX0_canBeFenced 29 = .ok (.ireturn, 1) := by decide +kernel
theorem dX1_init_0 : decode cX1_init 0 = .ok (.aload_n 0, 1) := by decide +kernel
theorem dX1_init_1 : decode cX1_init 1 = .ok (.invokespecial 1, 3) := by decide +kernel
theorem dX1_init_4 : decode cX1_init 4 = .ok (.aload_n 0, 1) := by decide +kernel
theorem dX1_init_5 : decode cX1_init 5 = .ok (.iload_n 1, 1) := by decide +kernel
theorem dX1_init_6 : decode cX1_init 6 = .ok (.putfield 7, 3) := by decide +kernel
theorem dX1_init_9 : decode cX1_init 9 = .ok (.return_, 1) := by decide +kernel
theorem dX1_clear_0 : decode cX1_clear 0 = .ok (.aload_n 0, 1) := by decide +kernel
theorem dX1_clear_1 : decode cX1_clear 1 = .ok (.iconst 0, 1) := by decide +kernel
theorem dX1_clear_2 : decode cX1_clear 2 = .ok (.putfield 13, 3) := by decide +kernel
theorem dX1_clear_5 : decode cX1_clear 5 = .ok (.aload_n 0, 1) := by decide +kernel
theorem dX1_clear_6 : decode cX1_clear 6 = .ok (.iconst 0, 1) := by decide +kernel
theorem dX1_clear_7 : decode cX1_clear 7 = .ok (.putfield 16, 3) := by decide +kernel
theorem dX1_clear_10 : decode cX1_clear 10 = .ok (.aload_n 0, 1) := by decide +kernel
theorem dX1_clear_11 : decode cX1_clear 11 = .ok (.iconst 0, 1) := by decide +kernel
theorem dX1_clear_12 : decode cX1_clear 12 = .ok (.putfield 19, 3) := by decide +kernel
theorem dX1_clear_15 : decode cX1_clear 15 = .ok (.aload_n 0, 1) := by decide +kernel
theorem dX1_clear_16 : decode cX1_clear 16 = .ok (.iconst 0, 1) := by decide +kernel
theorem dX1_clear_17 : decode cX1_clear 17 = .ok (.putfield 22, 3) := by decide +kernel
theorem dX1_clear_20 : decode cX1_clear 20 = .ok (.return_, 1) := by decide +kernel
theorem dX1_add_0 : decode cX1_add 0 = .ok (.aload_n 0, 1) := by decide +kernel
theorem dX1_add_1 : decode cX1_add 1 = .ok (.dup, 1) := by decide +kernel
theorem dX1_add_2 : decode cX1_add 2 = .ok (.getfield 13, 3) := by decide +kernel
theorem dX1_add_5 : decode cX1_add 5 = .ok (.iconst 1, 1) := by decide +kernel
theorem dX1_add_6 : decode cX1_add 6 = .ok (.iadd, 1) := by decide +kernel
theorem dX1_add_7 : decode cX1_add 7 = .ok (.putfield 13, 3) := by decide +kernel
theorem dX1_add_10 : decode cX1_add 10 = .ok (.aload_n 0, 1) := by decide +kernel
theorem dX1_add_11 : decode cX1_add 11 = .ok (.dup, 1) := by decide +kernel
theorem dX1_add_12 : decode cX1_add 12 = .ok (.getfield 16, 3) := by decide +kernel
theorem dX1_add_15 : decode cX1_add 15 = .ok (.iload_n 3, 1) := by decide +kernel
theorem dX1_add_16 : decode cX1_add 16 = .ok (.ifCond .eq 7, 3) := by decide +kernel
theorem dX1_add_19 : decode cX1_add 19 = .ok (.iconst 1, 1) := by decide +kernel
theorem dX1_add_20 : decode cX1_add 20 = .ok (.goto 4, 3) := by decide +kernel
theorem dX1_add_23 : decode cX1_add 23 = .ok (.iconst 0, 1) := by decide +kernel
theorem dX1_add_24 : decode cX1_add 24 = .ok (.iadd, 1) := by decide +kernel
theorem dX1_add_25 : decode cX1_add 25 = .ok (.putfield 16, 3) := by decide +kernel
theorem dX1_add_28 : decode cX1_add 28 = .ok (.aload_n 0, 1) := by decide +kernel
theorem dX1_add_29 : decode cX1_add 29 = .ok (.dup, 1) := by decide +kernel
theorem dX1_add_30 : decode cX1_add 30 = .ok (.getfield 19, 3) := by decide +kernel
theorem dX1_add_33 : decode cX1_add 33 = .ok (.iload_n 1, 1) := by decide +kernel
theorem dX1_add_34 : decode cX1_add 34 = .ok (.iadd, 1) := by decide +kernel
theorem dX1_add_35 : decode cX1_add 35 = .ok (.putfield 19, 3) := by decide +kernel
theorem dX1_add_38 : decode cX1_add 38 = .ok (.aload_n 0, 1) := by decide +kernel
theorem dX1_add_39 : decode cX1_add 39 = .ok (.dup, 1) := by decide +kernel
theorem dX1_add_40 : decode cX1_add 40 = .ok (.getfield 22, 3) := by decide +kernel
theorem dX1_add_43 : decode cX1_add 43 = .ok (.iload_n 2, 1) := by decide +kernel
theorem dX1_add_44 : decode cX1_add 44 = .ok (.iadd, 1) := by decide +kernel
theorem dX1_add_45 : decode cX1_add 45 = .ok (.putfield 22, 3) := by decide +kernel
theorem dX1_add_48 : decode cX1_add 48 = .ok (.return_, 1) := by decide +kernel
theorem dX1_difference_0 : decode cX1_difference 0 = .ok (.aload_n 0, 1) := by decide +kernel
theorem dX1_difference_1 : decode cX1_difference 1 = .ok (.getfield 19, 3) := by decide +kernel
theorem dX1_difference_4 : decode cX1_difference 4 = .ok (.aload_n 0, 1) := by decide +kernel
theorem dX1_difference_5 : decode cX1_difference 5 = .ok (.getfield 22, 3) := by decide +kernel
theorem dX1_difference_8 : decode cX1_difference 8 = .ok (.isub, 1) := by decide +kernel
theorem dX1_difference_9 : decode cX1_difference 9 = .ok (.ireturn, 1) := by decide +kernel
theorem dX1_isAheadOf_0 : decode cX1_isAheadOf 0 = .ok (.aload_n 0, 1) := by decide +kernel
theorem dX1_isAheadOf_1 : decode cX1_isAheadOf 1 = .ok (.getfield 16, 3) := by decide +kernel
theorem dX1_isAheadOf_4 : decode cX1_isAheadOf 4 = .ok (.iconst 1, 1) := by decide +kernel
theorem dX1_isAheadOf_5 : decode cX1_isAheadOf 5 = .ok (.aload_n 1, 1) := by decide +kernel
theorem dX1_isAheadOf_6 : decode cX1_isAheadOf 6 = .ok (.getfield 13, 3) := by decide +kernel
theorem dX1_isAheadOf_9 : decode cX1_isAheadOf 9 = .ok (.invokestatic 25, 3) := by decide +kernel
theorem dX1_isAheadOf_12 : decode cX1_isAheadOf 12 = .ok (.imul, 1) := by decide +kernel
theorem dX1_isAheadOf_13 : decode cX1_isAheadOf 13 = .ok (.istore_n 2, 1) := by decide +kernel
theorem dX1_isAheadOf_14 : decode cX1_isAheadOf 14 = .ok (.aload_n 1, 1) := by decide +kernel
theorem dX1_isAheadOf_15 : decode cX1_isAheadOf 15 = .ok (.getfield 16, 3) := by decide +kernel
theorem dX1_isAheadOf_18 : decode cX1_isAheadOf 18 = .ok (.iconst 1, 1) := by decide +kernel
theorem dX1_isAheadOf_19 : decode cX1_isAheadOf 19 = .ok (.aload_n 0, 1) := by decide +kernel
theorem dX1_isAheadOf_20 : decode cX1_isAheadOf 20 = .ok (.getfield 13, 3) := by decide +kernel
theorem dX1_isAheadOf_23 : decode cX1_isAheadOf 23 = .ok (.invokestatic 25, 3) := by decide +kernel
theorem dX1_isAheadOf_26 : decode cX1_isAheadOf 26 = .ok (.imul, 1) := by decide +kernel
theorem dX1_isAheadOf_27 : decode cX1_isAheadOf 27 = .ok (.istore_n 3, 1) := by decide +kernel
theorem dX1_isAheadOf_28 : decode cX1_isAheadOf 28 = .ok (.iload_n 2, 1) := by decide +kernel
theorem dX1_isAheadOf_29 : decode cX1_isAheadOf 29 = .ok (.iload_n 3, 1) := by decide +kernel
theorem dX1_isAheadOf_30 : decode cX1_isAheadOf 30 = .ok (.if_icmp .eq 14, 3) := by decide +kernel
theorem dX1_isAheadOf_33 : decode cX1_isAheadOf 33 = .ok (.iload_n 2, 1) := by decide +kernel
theorem dX1_isAheadOf_34 : decode cX1_isAheadOf 34 = .ok (.iload_n 3, 1) := by decide +kernel
theorem dX1_isAheadOf_35 : decode cX1_isAheadOf 35 = .ok (.if_icmp .le 7, 3) := by decide +kernel
theorem dX1_isAheadOf_38 : decode cX1_isAheadOf 38 = .ok (.iconst 1, 1) := by decide +kernel
theorem dX1_isAheadOf_39 : decode cX1_isAheadOf 39 = .ok (.goto 4, 3) := by decide +kernel
theorem dX1_isAheadOf_42 : decode cX1_isAheadOf 42 = .ok (.iconst 0, 1) := by decide +kernel
theorem dX1_isAheadOf_43 : decode cX1_isAheadOf 43 = .ok (.ireturn, 1) := by decide +kernel
theorem dX1_isAheadOf_44 : decode cX1_isAheadOf 44 = .ok (.aload_n 0, 1) := by decide +kernel
theorem dX1_isAheadOf_45 : decode cX1_isAheadOf 45 = .ok (.invokevirtual 31, 3) := by decide +kernel
theorem dX1_isAheadOf_48 : decode cX1_isAheadOf 48 = .ok (.aload_n 1, 1) := by decide +kernel
theorem dX1_isAheadOf_49 : decode cX1_isAheadOf 49 = .ok (.invokevirtual 31, 3) := by decide +kernel
theorem dX1_isAheadOf_52 : decode cX1_isAheadOf 52 = .ok (.if_icmp .eq 20, 3) := by decide +kernel
theorem dX1_isAheadOf_55 : decode cX1_isAheadOf 55 = .ok (.aload_n 0, 1) := by decide +kernel
theorem dX1_isAheadOf_56 : decode cX1_isAheadOf 56 = .ok (.invokevirtual 31, 3) := by decide +kernel
theorem dX1_isAheadOf_59 : decode cX1_isAheadOf 59 = .ok (.aload_n 1, 1) := by decide +kernel
theorem dX1_isAheadOf_60 : decode cX1_isAheadOf 60 = .ok (.invokevirtual 31, 3) := by decide +kernel
theorem dX1_isAheadOf_63 : decode cX1_isAheadOf 63 = .ok (.if_icmp .le 7, 3) := by decide +kernel
theorem dX1_isAheadOf_66 : decode cX1_isAheadOf 66 = .ok (.iconst 1, 1) := by decide +kernel
theorem dX1_isAheadOf_67 : decode cX1_isAheadOf 67 = .ok (.goto 4, 3) := by decide +kernel
theorem dX1_isAheadOf_70 : decode cX1_isAheadOf 70 = .ok (.iconst 0, 1) := by decide +kernel
theorem dX1_isAheadOf_71 : decode cX1_isAheadOf 71 = .ok (.ireturn, 1) := by decide +kernel
theorem dX1_isAheadOf_72 : decode cX1_isAheadOf 72 = .ok (.aload_n 0, 1) := by decide +kernel
theorem dX1_isAheadOf_73 : decode cX1_isAheadOf 73 = .ok (.getfield 19, 3) := by decide +kernel
theorem dX1_isAheadOf_76 : decode cX1_isAheadOf 76 = .ok (.aload_n 1, 1) := by decide +kernel
theorem dX1_isAheadOf_77 : decode cX1_isAheadOf 77 = .ok (.getfield 19, 3) := by decide +kernel
theorem dX1_isAheadOf_80 : decode cX1_isAheadOf 80 = .ok (.if_icmp .eq 22, 3) := by decide +kernel
theorem dX1_isAheadOf_83 : decode cX1_isAheadOf 83 = .ok (.aload_n 0, 1) := by decide +kernel
theorem dX1_isAheadOf_84 : decode cX1_isAheadOf 84 = .ok (.getfield 19, 3) := by decide +kernel
theorem dX1_isAheadOf_87 : decode cX1_isAheadOf 87 = .ok (.aload_n 1, 1) := by decide +kernel
theorem dX1_isAheadOf_88 : decode cX1_isAheadOf 88 = .ok (.getfield 19, 3) := by decide +kernel
theorem dX1_isAheadOf_91 : decode cX1_isAheadOf 91 = .ok (.if_icmp .le 7, 3) := by decide +kernel
theorem dX1_isAheadOf_94 : decode cX1_isAheadOf 94 = .ok (.iconst 1, 1) := by decide +kernel
theorem dX1_isAheadOf_95 : decode cX1_isAheadOf 95 = .ok (.goto 23, 3) := by decide +kernel
theorem dX1_isAheadOf_98 : decode cX1_isAheadOf 98 = .ok (.iconst 0, 1) := by decide +kernel
theorem dX1_isAheadOf_99 : decode cX1_isAheadOf 99 = .ok (.goto 19, 3) := by decide +kernel
theorem dX1_isAheadOf_102 : decode cX1_isAheadOf 102 = .ok (.aload_n 0, 1) := by decide +kernel
theorem dX1_isAheadOf_103 : decode cX1_isAheadOf 103 = .ok (.getfield 7, 3) := by decide +kernel
theorem dX1_isAheadOf_106 : decode cX1_isAheadOf 106 = .ok (.aload_n 1, 1) := by decide +kernel
theorem dX1_isAheadOf_107 : decode cX1_isAheadOf 107 = .ok (.getfield 7, 3) := by decide +kernel
theorem dX1_isAheadOf_110 : decode cX1_isAheadOf 110 = .ok (.if_icmp .ge 7, 3) := by decide +kernel
theorem dX1_isAheadOf_113 : decode cX1_isAheadOf 113 = .ok (.iconst 1, 1) := by decide +kernel
theorem dX1_isAheadOf_114 : decode cX1_isAheadOf 114 = .ok (.goto 4, 3) := by decide +kernel
theorem dX1_isAheadOf_117 : decode cX1_isAheadOf 117 = .ok (.iconst 0, 1) := by decide +kernel
theorem dX1_isAheadOf_118 : decode cX1_isAheadOf 118 = .ok (.ireturn, 1) := by decide +kernel
theorem dX2_init_0 : decode cX2_init 0 = .ok (.aload_n 0, 1) := by decide +kernel
theorem dX2_init_1 : decode cX2_init 1 = .ok (.invokespecial 3, 3) := by decide +kernel
theorem dX2_init_4 : decode cX2_init 4 = .ok (.aload_n 0, 1) := by decide +kernel
theorem dX2_init_5 : decode cX2_init 5 = .ok (.bipush 8, 2) := by decide +kernel
theorem dX2_init_7 : decode cX2_init 7 = .ok (.newarray .int, 2) := by decide +kernel
theorem dX2_init_9 : decode cX2_init 9 = .ok (.putfield 9, 3) := by decide +kernel
theorem dX2_init_12 : decode cX2_init 12 = .ok (.aload_n 0, 1) := by decide +kernel
theorem dX2_init_13 : decode cX2_init 13 = .ok (.bipush 8, 2) := by decide +kernel
theorem dX2_init_15 : decode cX2_init 15 = .ok (.newarray .int, 2) := by decide +kernel
theorem dX2_init_17 : decode cX2_init 17 = .ok (.putfield 15, 3) := by decide +kernel
theorem dX2_init_20 : decode cX2_init 20 = .ok (.aload_n 0, 1) := by decide +kernel
theorem dX2_init_21 : decode cX2_init 21 = .ok (.bipush 8, 2) := by decide +kernel
theorem dX2_init_23 : decode cX2_init 23 = .ok (.newarray .int, 2) := by decide +kernel
theorem dX2_init_25 : decode cX2_init 25 = .ok (.putfield 18, 3) := by decide +kernel
theorem dX2_init_28 : decode cX2_init 28 = .ok (.aload_n 0, 1) := by decide +kernel
theorem dX2_init_29 : decode cX2_init 29 = .ok (.iconst (-1), 1) := by decide +kernel
theorem dX2_init_30 : decode cX2_init 30 = .ok (.putfield 21, 3) := by decide +kernel
theorem dX2_init_33 : decode cX2_init 33 = .ok (.aload_n 0, 1) := by decide +kernel
theorem dX2_init_34 : decode cX2_init 34 = .ok (.iload_n 1, 1) := by decide +kernel
theorem dX2_init_35 : decode cX2_init 35 = .ok (.putfield 25, 3) := by decide +kernel
theorem dX2_init_38 : decode cX2_init 38 = .ok (.aload_n 0, 1) := by decide +kernel
theorem dX2_init_39 : decode cX2_init 39 = .ok (.aload_n 2, 1) := by decide +kernel
theorem dX2_init_40 : decode cX2_init 40 = .ok (.putfield 29, 3) := by decide +kernel
theorem dX2_init_43 : decode cX2_init 43 = .ok (.aload_n 0, 1) := by decide +kernel
theorem dX2_init_44 : decode cX2_init 44 = .ok (.aload_n 3, 1) := by decide +kernel
theorem dX2_init_45 : decode cX2_init 45 = .ok (.putfield 33, 3) := by decide +kernel
theorem dX2_init_48 : decode cX2_init 48 = .ok (.return_, 1) := by decide +kernel
theorem dX2_isFull_0 : decode cX2_isFull 0 = .ok (.aload_n 0, 1) := by decide +kernel
theorem dX2_isFull_1 : decode cX2_isFull 1 = .ok (.getfield 36, 3) := by decide +kernel
theorem dX2_isFull_4 : decode cX2_isFull 4 = .ok (.bipush 8, 2) := by decide +kernel
theorem dX2_isFull_6 : decode cX2_isFull 6 = .ok (.if_icmp .lt 7, 3) := by decide +kernel
theorem dX2_isFull_9 : decode cX2_isFull 9 = .ok (.iconst 1, 1) := by decide +kernel
theorem dX2_isFull_10 : decode cX2_isFull 10 = .ok (.goto 4, 3) := by decide +kernel
theorem dX2_isFull_13 : decode cX2_isFull 13 = .ok (.iconst 0, 1) := by decide +kernel
theorem dX2_isFull_14 : decode cX2_isFull 14 = .ok (.ireturn, 1) := by decide +kernel
theorem dX2_latestTime_0 : decode cX2_latestTime 0 = .ok (.aload_n 0, 1) := by decide +kernel
theorem dX2_latestTime_1 : decode cX2_latestTime 1 = .ok (.getfield 36, 3) := by decide +kernel
theorem dX2_latestTime_4 : decode cX2_latestTime 4 = .ok (.ifCond .le 26, 3) := by decide +kernel
theorem dX2_latestTime_7 : decode cX2_latestTime 7 = .ok (.aload_n 0, 1) := by decide +kernel
theorem dX2_latestTime_8 : decode cX2_latestTime 8 = .ok (.getfield 36, 3) := by decide +kernel
theorem dX2_latestTime_11 : decode cX2_latestTime 11 = .ok (.bipush 8, 2) := by decide +kernel
theorem dX2_latestTime_13 : decode cX2_latestTime 13 = .ok (.if_icmp .gt 17, 3) := by decide +kernel
theorem dX2_latestTime_16 : decode cX2_latestTime 16 = .ok (.aload_n 0, 1) := by decide +kernel
theorem dX2_latestTime_17 : decode cX2_latestTime 17 = .ok (.getfield 18, 3) := by decide +kernel
theorem dX2_latestTime_20 : decode cX2_latestTime 20 = .ok (.aload_n 0, 1) := by decide +kernel
theorem dX2_latestTime_21 : decode cX2_latestTime 21 = .ok (.getfield 36, 3) := by decide +kernel
theorem dX2_latestTime_24 : decode cX2_latestTime 24 = .ok (.iconst 1, 1) := by decide +kernel
theorem dX2_latestTime_25 : decode cX2_latestTime 25 = .ok (.isub, 1) := by decide +kernel
theorem dX2_latestTime_26 : decode cX2_latestTime 26 = .ok (.iaload, 1) := by decide +kernel
theorem dX2_latestTime_27 : decode cX2_latestTime 27 = .ok (.goto 4, 3) := by decide +kernel
theorem dX2_latestTime_30 : decode cX2_latestTime 30 = .ok (.iconst 0, 1) := by decide +kernel
theorem dX2_latestTime_31 : decode cX2_latestTime 31 = .ok (.ireturn, 1) := by decide +kernel
theorem dX2_hear_0 : decode cX2_hear 0 = .ok (.aload_n 0, 1) := by decide +kernel
theorem dX2_hear_1 : decode cX2_hear 1 = .ok (.getfield 36, 3) := by decide +kernel
theorem dX2_hear_4 : decode cX2_hear 4 = .ok (.ifCond .lt 10, 3) := by decide +kernel
theorem dX2_hear_7 : decode cX2_hear 7 = .ok (.aload_n 0, 1) := by decide +kernel
theorem dX2_hear_8 : decode cX2_hear 8 = .ok (.invokevirtual 39, 3) := by decide +kernel
theorem dX2_hear_11 : decode cX2_hear 11 = .ok (.ifCond .eq 4, 3) := by decide +kernel
theorem dX2_hear_14 : decode cX2_hear 14 = .ok (.return_, 1) := by decide +kernel
theorem dX2_hear_15 : decode cX2_hear 15 = .ok (.aload_n 0, 1) := by decide +kernel
theorem dX2_hear_16 : decode cX2_hear 16 = .ok (.getfield 9, 3) := by decide +kernel
theorem dX2_hear_19 : decode cX2_hear 19 = .ok (.aload_n 0, 1) := by decide +kernel
theorem dX2_hear_20 : decode cX2_hear 20 = .ok (.getfield 36, 3) := by decide +kernel
theorem dX2_hear_23 : decode cX2_hear 23 = .ok (.iload_n 1, 1) := by decide +kernel
theorem dX2_hear_24 : decode cX2_hear 24 = .ok (.iastore, 1) := by decide +kernel
theorem dX2_hear_25 : decode cX2_hear 25 = .ok (.aload_n 0, 1) := by decide +kernel
theorem dX2_hear_26 : decode cX2_hear 26 = .ok (.getfield 15, 3) := by decide +kernel
theorem dX2_hear_29 : decode cX2_hear 29 = .ok (.aload_n 0, 1) := by decide +kernel
theorem dX2_hear_30 : decode cX2_hear 30 = .ok (.getfield 36, 3) := by decide +kernel
theorem dX2_hear_33 : decode cX2_hear 33 = .ok (.iload_n 2, 1) := by decide +kernel
theorem dX2_hear_34 : decode cX2_hear 34 = .ok (.iastore, 1) := by decide +kernel
theorem dX2_hear_35 : decode cX2_hear 35 = .ok (.aload_n 0, 1) := by decide +kernel
theorem dX2_hear_36 : decode cX2_hear 36 = .ok (.getfield 18, 3) := by decide +kernel
theorem dX2_hear_39 : decode cX2_hear 39 = .ok (.aload_n 0, 1) := by decide +kernel
theorem dX2_hear_40 : decode cX2_hear 40 = .ok (.getfield 36, 3) := by decide +kernel
theorem dX2_hear_43 : decode cX2_hear 43 = .ok (.iload_n 3, 1) := by decide +kernel
theorem dX2_hear_44 : decode cX2_hear 44 = .ok (.iastore, 1) := by decide +kernel
theorem dX2_hear_45 : decode cX2_hear 45 = .ok (.aload_n 0, 1) := by decide +kernel
theorem dX2_hear_46 : decode cX2_hear 46 = .ok (.dup, 1) := by decide +kernel
theorem dX2_hear_47 : decode cX2_hear 47 = .ok (.getfield 36, 3) := by decide +kernel
theorem dX2_hear_50 : decode cX2_hear 50 = .ok (.iconst 1, 1) := by decide +kernel
theorem dX2_hear_51 : decode cX2_hear 51 = .ok (.iadd, 1) := by decide +kernel
theorem dX2_hear_52 : decode cX2_hear 52 = .ok (.putfield 36, 3) := by decide +kernel
theorem dX2_hear_55 : decode cX2_hear 55 = .ok (.return_, 1) := by decide +kernel
theorem dX2_tellRight_0 : decode cX2_tellRight 0 = .ok (.aload_n 0, 1) := by decide +kernel
theorem dX2_tellRight_1 : decode cX2_tellRight 1 = .ok (.iconst 1, 1) := by decide +kernel
theorem dX2_tellRight_2 : decode cX2_tellRight 2 = .ok (.putfield 43, 3) := by decide +kernel
theorem dX2_tellRight_5 : decode cX2_tellRight 5 = .ok (.aload_n 0, 1) := by decide +kernel
theorem dX2_tellRight_6 : decode cX2_tellRight 6 = .ok (.iload_n 1, 1) := by decide +kernel
theorem dX2_tellRight_7 : decode cX2_tellRight 7 = .ok (.putfield 21, 3) := by decide +kernel
theorem dX2_tellRight_10 : decode cX2_tellRight 10 = .ok (.aload_n 0, 1) := by decide +kernel
theorem dX2_tellRight_11 : decode cX2_tellRight 11 = .ok (.aload_n 0, 1) := by decide +kernel
theorem dX2_tellRight_12 : decode cX2_tellRight 12 = .ok (.invokevirtual 46, 3) := by decide +kernel
theorem dX2_tellRight_15 : decode cX2_tellRight 15 = .ok (.putfield 50, 3) := by decide +kernel
theorem dX2_tellRight_18 : decode cX2_tellRight 18 = .ok (.return_, 1) := by decide +kernel
theorem dX2_judge_0 : decode cX2_judge 0 = .ok (.aload_n 0, 1) := by decide +kernel
theorem dX2_judge_1 : decode cX2_judge 1 = .ok (.invokevirtual 53, 3) := by decide +kernel
theorem dX2_judge_4 : decode cX2_judge 4 = .ok (.istore_n 1, 1) := by decide +kernel
theorem dX2_judge_5 : decode cX2_judge 5 = .ok (.iload_n 1, 1) := by decide +kernel
theorem dX2_judge_6 : decode cX2_judge 6 = .ok (.iconst (-1), 1) := by decide +kernel
theorem dX2_judge_7 : decode cX2_judge 7 = .ok (.if_icmp .ne 5, 3) := by decide +kernel
theorem dX2_judge_10 : decode cX2_judge 10 = .ok (.iconst 0, 1) := by decide +kernel
theorem dX2_judge_11 : decode cX2_judge 11 = .ok (.ireturn, 1) := by decide +kernel
theorem dX2_judge_12 : decode cX2_judge 12 = .ok (.aload_n 0, 1) := by decide +kernel
theorem dX2_judge_13 : decode cX2_judge 13 = .ok (.iload_n 1, 1) := by decide +kernel
theorem dX2_judge_14 : decode cX2_judge 14 = .ok (.invokevirtual 56, 3) := by decide +kernel
theorem dX2_judge_17 : decode cX2_judge 17 = .ok (.istore_n 2, 1) := by decide +kernel
theorem dX2_judge_18 : decode cX2_judge 18 = .ok (.aload_n 0, 1) := by decide +kernel
theorem dX2_judge_19 : decode cX2_judge 19 = .ok (.getfield 25, 3) := by decide +kernel
theorem dX2_judge_22 : decode cX2_judge 22 = .ok (.ifCond .ne 15, 3) := by decide +kernel
theorem dX2_judge_25 : decode cX2_judge 25 = .ok (.aload_n 0, 1) := by decide +kernel
theorem dX2_judge_26 : decode cX2_judge 26 = .ok (.iload_n 1, 1) := by decide +kernel
theorem dX2_judge_27 : decode cX2_judge 27 = .ok (.invokevirtual 60, 3) := by decide +kernel
theorem dX2_judge_30 : decode cX2_judge 30 = .ok (.aload_n 0, 1) := by decide +kernel
theorem dX2_judge_31 : decode cX2_judge 31 = .ok (.iload_n 2, 1) := by decide +kernel
theorem dX2_judge_32 : decode cX2_judge 32 = .ok (.invokevirtual 60, 3) := by decide +kernel
theorem dX2_judge_35 : decode cX2_judge 35 = .ok (.ior, 1) := by decide +kernel
theorem dX2_judge_36 : decode cX2_judge 36 = .ok (.ireturn, 1) := by decide +kernel
theorem dX2_judge_37 : decode cX2_judge 37 = .ok (.iload_n 2, 1) := by decide +kernel
theorem dX2_judge_38 : decode cX2_judge 38 = .ok (.iconst (-1), 1) := by decide +kernel
theorem dX2_judge_39 : decode cX2_judge 39 = .ok (.if_icmp .ne 9, 3) := by decide +kernel
theorem dX2_judge_42 : decode cX2_judge 42 = .ok (.aload_n 0, 1) := by decide +kernel
theorem dX2_judge_43 : decode cX2_judge 43 = .ok (.iload_n 1, 1) := by decide +kernel
theorem dX2_judge_44 : decode cX2_judge 44 = .ok (.invokevirtual 60, 3) := by decide +kernel
theorem dX2_judge_47 : decode cX2_judge 47 = .ok (.ireturn, 1) := by decide +kernel
theorem dX2_judge_48 : decode cX2_judge 48 = .ok (.aload_n 0, 1) := by decide +kernel
theorem dX2_judge_49 : decode cX2_judge 49 = .ok (.iload_n 1, 1) := by decide +kernel
theorem dX2_judge_50 : decode cX2_judge 50 = .ok (.invokevirtual 63, 3) := by decide +kernel
theorem dX2_judge_53 : decode cX2_judge 53 = .ok (.istore_n 3, 1) := by decide +kernel
theorem dX2_judge_54 : decode cX2_judge 54 = .ok (.iload_n 3, 1) := by decide +kernel
theorem dX2_judge_55 : decode cX2_judge 55 = .ok (.iconst (-1), 1) := by decide +kernel
theorem dX2_judge_56 : decode cX2_judge 56 = .ok (.if_icmp .ne 5, 3) := by decide +kernel
theorem dX2_judge_59 : decode cX2_judge 59 = .ok (.iconst 0, 1) := by decide +kernel
theorem dX2_judge_60 : decode cX2_judge 60 = .ok (.ireturn, 1) := by decide +kernel
theorem dX2_judge_61 : decode cX2_judge 61 = .ok (.aload_n 0, 1) := by decide +kernel
theorem dX2_judge_62 : decode cX2_judge 62 = .ok (.aload_n 0, 1) := by decide +kernel
theorem dX2_judge_63 : decode cX2_judge 63 = .ok (.getfield 15, 3) := by decide +kernel
theorem dX2_judge_66 : decode cX2_judge 66 = .ok (.iload_n 1, 1) := by decide +kernel
theorem dX2_judge_67 : decode cX2_judge 67 = .ok (.iaload, 1) := by decide +kernel
theorem dX2_judge_68 : decode cX2_judge 68 = .ok (.iload_n 3, 1) := by decide +kernel
theorem dX2_judge_69 : decode cX2_judge 69 = .ok (.if_icmp .ne 7, 3) := by decide +kernel
theorem dX2_judge_72 : decode cX2_judge 72 = .ok (.iload_n 1, 1) := by decide +kernel
theorem dX2_judge_73 : decode cX2_judge 73 = .ok (.goto 4, 3) := by decide +kernel
theorem dX2_judge_76 : decode cX2_judge 76 = .ok (.iload_n 2, 1) := by decide +kernel
theorem dX2_judge_77 : decode cX2_judge 77 = .ok (.invokevirtual 60, 3) := by decide +kernel
theorem dX2_judge_80 : decode cX2_judge 80 = .ok (.ireturn, 1) := by decide +kernel
theorem dX2_withoutStruck_0 : decode cX2_withoutStruck 0 = .ok (.iload_n 1, 1) := by decide +kernel
theorem dX2_withoutStruck_1 : decode cX2_withoutStruck 1 = .ok (.istore_n 3, 1) := by decide +kernel
theorem dX2_withoutStruck_2 : decode cX2_withoutStruck 2 = .ok (.aload_n 0, 1) := by decide +kernel
theorem dX2_withoutStruck_3 : decode cX2_withoutStruck 3 = .ok (.getfield 29, 3) := by decide +kernel
theorem dX2_withoutStruck_6 : decode cX2_withoutStruck 6 = .ok (.iload_n 2, 1) := by decide +kernel
theorem dX2_withoutStruck_7 : decode cX2_withoutStruck 7 = .ok (.invokevirtual 66, 3) := by decide +kernel
theorem dX2_withoutStruck_10 : decode cX2_withoutStruck 10 = .ok (.ifCond .eq 7, 3) := by decide +kernel
theorem dX2_withoutStruck_13 : decode cX2_withoutStruck 13 = .ok (.iload_n 3, 1) := by decide +kernel
theorem dX2_withoutStruck_14 : decode cX2_withoutStruck 14 = .ok (.iconst 2, 1) := by decide +kernel
theorem dX2_withoutStruck_15 : decode cX2_withoutStruck 15 = .ok (.iand, 1) := by decide +kernel
theorem dX2_withoutStruck_16 : decode cX2_withoutStruck 16 = .ok (.istore_n 3, 1) := by decide +kernel
theorem dX2_withoutStruck_17 : decode cX2_withoutStruck 17 = .ok (.aload_n 0, 1) := by decide +kernel
theorem dX2_withoutStruck_18 : decode cX2_withoutStruck 18 = .ok (.getfield 33, 3) := by decide +kernel
theorem dX2_withoutStruck_21 : decode cX2_withoutStruck 21 = .ok (.iload_n 2, 1) := by decide +kernel
theorem dX2_withoutStruck_22 : decode cX2_withoutStruck 22 = .ok (.invokevirtual 66, 3) := by decide +kernel
theorem dX2_withoutStruck_25 : decode cX2_withoutStruck 25 = .ok (.ifCond .eq 7, 3) := by decide +kernel
theorem dX2_withoutStruck_28 : decode cX2_withoutStruck 28 = .ok (.iload_n 3, 1) := by decide +kernel
theorem dX2_withoutStruck_29 : decode cX2_withoutStruck 29 = .ok (.iconst 1, 1) := by decide +kernel
theorem dX2_withoutStruck_30 : decode cX2_withoutStruck 30 = .ok (.iand, 1) := by decide +kernel
theorem dX2_withoutStruck_31 : decode cX2_withoutStruck 31 = .ok (.istore_n 3, 1) := by decide +kernel
theorem dX2_withoutStruck_32 : decode cX2_withoutStruck 32 = .ok (.iload_n 3, 1) := by decide +kernel
theorem dX2_withoutStruck_33 : decode cX2_withoutStruck 33 = .ok (.ireturn, 1) := by decide +kernel
theorem dX2_isALight_0 : decode cX2_isALight 0 = .ok (.aload_n 0, 1) := by decide +kernel
theorem dX2_isALight_1 : decode cX2_isALight 1 = .ok (.getfield 9, 3) := by decide +kernel
theorem dX2_isALight_4 : decode cX2_isALight 4 = .ok (.iload_n 1, 1) := by decide +kernel
theorem dX2_isALight_5 : decode cX2_isALight 5 = .ok (.iaload, 1) := by decide +kernel
theorem dX2_isALight_6 : decode cX2_isALight 6 = .ok (.ifCond .eq 20, 3) := by decide +kernel
theorem dX2_isALight_9 : decode cX2_isALight 9 = .ok (.aload_n 0, 1) := by decide +kernel
theorem dX2_isALight_10 : decode cX2_isALight 10 = .ok (.getfield 25, 3) := by decide +kernel
theorem dX2_isALight_13 : decode cX2_isALight 13 = .ok (.ifCond .eq 17, 3) := by decide +kernel
theorem dX2_isALight_16 : decode cX2_isALight 16 = .ok (.aload_n 0, 1) := by decide +kernel
theorem dX2_isALight_17 : decode cX2_isALight 17 = .ok (.getfield 9, 3) := by decide +kernel
theorem dX2_isALight_20 : decode cX2_isALight 20 = .ok (.iload_n 1, 1) := by decide +kernel
theorem dX2_isALight_21 : decode cX2_isALight 21 = .ok (.iaload, 1) := by decide +kernel
theorem dX2_isALight_22 : decode cX2_isALight 22 = .ok (.iconst 1, 1) := by decide +kernel
theorem dX2_isALight_23 : decode cX2_isALight 23 = .ok (.if_icmp .ne 7, 3) := by decide +kernel
theorem dX2_isALight_26 : decode cX2_isALight 26 = .ok (.iconst 1, 1) := by decide +kernel
theorem dX2_isALight_27 : decode cX2_isALight 27 = .ok (.goto 4, 3) := by decide +kernel
theorem dX2_isALight_30 : decode cX2_isALight 30 = .ok (.iconst 0, 1) := by decide +kernel
theorem dX2_isALight_31 : decode cX2_isALight 31 = .ok (.ireturn, 1) := by decide +kernel
theorem dX2_firstLight_0 : decode cX2_firstLight 0 = .ok (.iconst 0, 1) := by decide +kernel
theorem dX2_firstLight_1 : decode cX2_firstLight 1 = .ok (.istore_n 1, 1) := by decide +kernel
theorem dX2_firstLight_2 : decode cX2_firstLight 2 = .ok (.iload_n 1, 1) := by decide +kernel
theorem dX2_firstLight_3 : decode cX2_firstLight 3 = .ok (.aload_n 0, 1) := by decide +kernel
theorem dX2_firstLight_4 : decode cX2_firstLight 4 = .ok (.getfield 36, 3) := by decide +kernel
theorem dX2_firstLight_7 : decode cX2_firstLight 7 = .ok (.if_icmp .ge 25, 3) := by decide +kernel
theorem dX2_firstLight_10 : decode cX2_firstLight 10 = .ok (.iload_n 1, 1) := by decide +kernel
theorem dX2_firstLight_11 : decode cX2_firstLight 11 = .ok (.bipush 8, 2) := by decide +kernel
theorem dX2_firstLight_13 : decode cX2_firstLight 13 = .ok (.if_icmp .ge 19, 3) := by decide +kernel
theorem dX2_firstLight_16 : decode cX2_firstLight 16 = .ok (.aload_n 0, 1) := by decide +kernel
theorem dX2_firstLight_17 : decode cX2_firstLight 17 = .ok (.iload_n 1, 1) := by decide +kernel
theorem dX2_firstLight_18 : decode cX2_firstLight 18 = .ok (.invokevirtual 72, 3) := by decide +kernel
theorem dX2_firstLight_21 : decode cX2_firstLight 21 = .ok (.ifCond .eq 5, 3) := by decide +kernel
theorem dX2_firstLight_24 : decode cX2_firstLight 24 = .ok (.iload_n 1, 1) := by decide +kernel
theorem dX2_firstLight_25 : decode cX2_firstLight 25 = .ok (.ireturn, 1) := by decide +kernel
theorem dX2_firstLight_26 : decode cX2_firstLight 26 = .ok (.iinc 1 1, 3) := by decide +kernel
theorem dX2_firstLight_29 : decode cX2_firstLight 29 = .ok (.goto (-27), 3) := by decide +kernel
theorem dX2_firstLight_32 : decode cX2_firstLight 32 = .ok (.iconst (-1), 1) := by decide +kernel
theorem dX2_firstLight_33 : decode cX2_firstLight 33 = .ok (.ireturn, 1) := by decide +kernel
theorem dX2_otherLight_0 : decode cX2_otherLight 0 = .ok (.aload_n 0, 1) := by decide +kernel
theorem dX2_otherLight_1 : decode cX2_otherLight 1 = .ok (.getfield 25, 3) := by decide +kernel
theorem dX2_otherLight_4 : decode cX2_otherLight 4 = .ok (.ifCond .eq 9, 3) := by decide +kernel
theorem dX2_otherLight_7 : decode cX2_otherLight 7 = .ok (.sipush 300, 3) := by decide +kernel
theorem dX2_otherLight_10 : decode cX2_otherLight 10 = .ok (.goto 5, 3) := by decide +kernel
theorem dX2_otherLight_13 : decode cX2_otherLight 13 = .ok (.bipush 40, 2) := by decide +kernel
theorem dX2_otherLight_15 : decode cX2_otherLight 15 = .ok (.istore_n 2, 1) := by decide +kernel
theorem dX2_otherLight_16 : decode cX2_otherLight 16 = .ok (.iload_n 1, 1) := by decide +kernel
theorem dX2_otherLight_17 : decode cX2_otherLight 17 = .ok (.iconst 1, 1) := by decide +kernel
theorem dX2_otherLight_18 : decode cX2_otherLight 18 = .ok (.iadd, 1) := by decide +kernel
theorem dX2_otherLight_19 : decode cX2_otherLight 19 = .ok (.istore_n 3, 1) := by decide +kernel
theorem dX2_otherLight_20 : decode cX2_otherLight 20 = .ok (.iload_n 3, 1) := by decide +kernel
theorem dX2_otherLight_21 : decode cX2_otherLight 21 = .ok (.aload_n 0, 1) := by decide +kernel
theorem dX2_otherLight_22 : decode cX2_otherLight 22 = .ok (.getfield 36, 3) := by decide +kernel
theorem dX2_otherLight_25 : decode cX2_otherLight 25 = .ok (.if_icmp .ge 69, 3) := by decide +kernel
theorem dX2_otherLight_28 : decode cX2_otherLight 28 = .ok (.iload_n 3, 1) := by decide +kernel
theorem dX2_otherLight_29 : decode cX2_otherLight 29 = .ok (.bipush 8, 2) := by decide +kernel
theorem dX2_otherLight_31 : decode cX2_otherLight 31 = .ok (.if_icmp .ge 63, 3) := by decide +kernel
theorem dX2_otherLight_34 : decode cX2_otherLight 34 = .ok (.aload_n 0, 1) := by decide +kernel
theorem dX2_otherLight_35 : decode cX2_otherLight 35 = .ok (.getfield 18, 3) := by decide +kernel
theorem dX2_otherLight_38 : decode cX2_otherLight 38 = .ok (.iload_n 3, 1) := by decide +kernel
theorem dX2_otherLight_39 : decode cX2_otherLight 39 = .ok (.iaload, 1) := by decide +kernel
theorem dX2_otherLight_40 : decode cX2_otherLight 40 = .ok (.aload_n 0, 1) := by decide +kernel
theorem dX2_otherLight_41 : decode cX2_otherLight 41 = .ok (.getfield 18, 3) := by decide +kernel
theorem dX2_otherLight_44 : decode cX2_otherLight 44 = .ok (.iload_n 1, 1) := by decide +kernel
theorem dX2_otherLight_45 : decode cX2_otherLight 45 = .ok (.iaload, 1) := by decide +kernel
theorem dX2_otherLight_46 : decode cX2_otherLight 46 = .ok (.isub, 1) := by decide +kernel
theorem dX2_otherLight_47 : decode cX2_otherLight 47 = .ok (.iload_n 2, 1) := by decide +kernel
theorem dX2_otherLight_48 : decode cX2_otherLight 48 = .ok (.if_icmp .gt 7, 3) := by decide +kernel
theorem dX2_otherLight_51 : decode cX2_otherLight 51 = .ok (.iconst 1, 1) := by decide +kernel
theorem dX2_otherLight_52 : decode cX2_otherLight 52 = .ok (.goto 4, 3) := by decide +kernel
theorem dX2_otherLight_55 : decode cX2_otherLight 55 = .ok (.iconst 0, 1) := by decide +kernel
theorem dX2_otherLight_56 : decode cX2_otherLight 56 = .ok (.istore 4, 2) := by decide +kernel
theorem dX2_otherLight_58 : decode cX2_otherLight 58 = .ok (.iload 4, 2) := by decide +kernel
theorem dX2_otherLight_60 : decode cX2_otherLight 60 = .ok (.ifCond .eq 28, 3) := by decide +kernel
theorem dX2_otherLight_63 : decode cX2_otherLight 63 = .ok (.aload_n 0, 1) := by decide +kernel
theorem dX2_otherLight_64 : decode cX2_otherLight 64 = .ok (.iload_n 3, 1) := by decide +kernel
theorem dX2_otherLight_65 : decode cX2_otherLight 65 = .ok (.invokevirtual 72, 3) := by decide +kernel
theorem dX2_otherLight_68 : decode cX2_otherLight 68 = .ok (.ifCond .eq 20, 3) := by decide +kernel
theorem dX2_otherLight_71 : decode cX2_otherLight 71 = .ok (.aload_n 0, 1) := by decide +kernel
theorem dX2_otherLight_72 : decode cX2_otherLight 72 = .ok (.getfield 15, 3) := by decide +kernel
theorem dX2_otherLight_75 : decode cX2_otherLight 75 = .ok (.iload_n 3, 1) := by decide +kernel
theorem dX2_otherLight_76 : decode cX2_otherLight 76 = .ok (.iaload, 1) := by decide +kernel
theorem dX2_otherLight_77 : decode cX2_otherLight 77 = .ok (.aload_n 0, 1) := by decide +kernel
theorem dX2_otherLight_78 : decode cX2_otherLight 78 = .ok (.getfield 15, 3) := by decide +kernel
theorem dX2_otherLight_81 : decode cX2_otherLight 81 = .ok (.iload_n 1, 1) := by decide +kernel
theorem dX2_otherLight_82 : decode cX2_otherLight 82 = .ok (.iaload, 1) := by decide +kernel
theorem dX2_otherLight_83 : decode cX2_otherLight 83 = .ok (.if_icmp .eq 5, 3) := by decide +kernel
theorem dX2_otherLight_86 : decode cX2_otherLight 86 = .ok (.iload_n 3, 1) := by decide +kernel
theorem dX2_otherLight_87 : decode cX2_otherLight 87 = .ok (.ireturn, 1) := by decide +kernel
theorem dX2_otherLight_88 : decode cX2_otherLight 88 = .ok (.iinc 3 1, 3) := by decide +kernel
theorem dX2_otherLight_91 : decode cX2_otherLight 91 = .ok (.goto (-71), 3) := by decide +kernel
theorem dX2_otherLight_94 : decode cX2_otherLight 94 = .ok (.iconst (-1), 1) := by decide +kernel
theorem dX2_otherLight_95 : decode cX2_otherLight 95 = .ok (.ireturn, 1) := by decide +kernel
theorem dX2_rightAt_0 : decode cX2_rightAt 0 = .ok (.aload_n 0, 1) := by decide +kernel
theorem dX2_rightAt_1 : decode cX2_rightAt 1 = .ok (.getfield 43, 3) := by decide +kernel
theorem dX2_rightAt_4 : decode cX2_rightAt 4 = .ok (.ifCond .eq 8, 3) := by decide +kernel
theorem dX2_rightAt_7 : decode cX2_rightAt 7 = .ok (.aload_n 0, 1) := by decide +kernel
theorem dX2_rightAt_8 : decode cX2_rightAt 8 = .ok (.getfield 21, 3) := by decide +kernel
theorem dX2_rightAt_11 : decode cX2_rightAt 11 = .ok (.ireturn, 1) := by decide +kernel
theorem dX2_rightAt_12 : decode cX2_rightAt 12 = .ok (.iconst (-1), 1) := by decide +kernel
theorem dX2_rightAt_13 : decode cX2_rightAt 13 = .ok (.istore_n 2, 1) := by decide +kernel
theorem dX2_rightAt_14 : decode cX2_rightAt 14 = .ok (.iconst 0, 1) := by decide +kernel
theorem dX2_rightAt_15 : decode cX2_rightAt 15 = .ok (.istore_n 3, 1) := by decide +kernel
theorem dX2_rightAt_16 : decode cX2_rightAt 16 = .ok (.iload_n 3, 1) := by decide +kernel
theorem dX2_rightAt_17 : decode cX2_rightAt 17 = .ok (.iload_n 1, 1) := by decide +kernel
theorem dX2_rightAt_18 : decode cX2_rightAt 18 = .ok (.if_icmp .ge 32, 3) := by decide +kernel
theorem dX2_rightAt_21 : decode cX2_rightAt 21 = .ok (.iload_n 3, 1) := by decide +kernel
theorem dX2_rightAt_22 : decode cX2_rightAt 22 = .ok (.bipush 8, 2) := by decide +kernel
theorem dX2_rightAt_24 : decode cX2_rightAt 24 = .ok (.if_icmp .ge 26, 3) := by decide +kernel
theorem dX2_rightAt_27 : decode cX2_rightAt 27 = .ok (.aload_n 0, 1) := by decide +kernel
theorem dX2_rightAt_28 : decode cX2_rightAt 28 = .ok (.getfield 9, 3) := by decide +kernel
theorem dX2_rightAt_31 : decode cX2_rightAt 31 = .ok (.iload_n 3, 1) := by decide +kernel
theorem dX2_rightAt_32 : decode cX2_rightAt 32 = .ok (.iaload, 1) := by decide +kernel
theorem dX2_rightAt_33 : decode cX2_rightAt 33 = .ok (.iconst 2, 1) := by decide +kernel
theorem dX2_rightAt_34 : decode cX2_rightAt 34 = .ok (.if_icmp .ne 10, 3) := by decide +kernel
theorem dX2_rightAt_37 : decode cX2_rightAt 37 = .ok (.aload_n 0, 1) := by decide +kernel
theorem dX2_rightAt_38 : decode cX2_rightAt 38 = .ok (.getfield 15, 3) := by decide +kernel
theorem dX2_rightAt_41 : decode cX2_rightAt 41 = .ok (.iload_n 3, 1) := by decide +kernel
theorem dX2_rightAt_42 : decode cX2_rightAt 42 = .ok (.iaload, 1) := by decide +kernel
theorem dX2_rightAt_43 : decode cX2_rightAt 43 = .ok (.istore_n 2, 1) := by decide +kernel
theorem dX2_rightAt_44 : decode cX2_rightAt 44 = .ok (.iinc 3 1, 3) := by decide +kernel
theorem dX2_rightAt_47 : decode cX2_rightAt 47 = .ok (.goto (-31), 3) := by decide +kernel
theorem dX2_rightAt_50 : decode cX2_rightAt 50 = .ok (.iload_n 2, 1) := by decide +kernel
theorem dX2_rightAt_51 : decode cX2_rightAt 51 = .ok (.ireturn, 1) := by decide +kernel
theorem dX2_touchOf_0 : decode cX2_touchOf 0 = .ok (.iload_n 1, 1) := by decide +kernel
theorem dX2_touchOf_1 : decode cX2_touchOf 1 = .ok (.ifCond .lt 18, 3) := by decide +kernel
theorem dX2_touchOf_4 : decode cX2_touchOf 4 = .ok (.iload_n 1, 1) := by decide +kernel
theorem dX2_touchOf_5 : decode cX2_touchOf 5 = .ok (.bipush 8, 2) := by decide +kernel
theorem dX2_touchOf_7 : decode cX2_touchOf 7 = .ok (.if_icmp .ge 12, 3) := by decide +kernel
theorem dX2_touchOf_10 : decode cX2_touchOf 10 = .ok (.aload_n 0, 1) := by decide +kernel
theorem dX2_touchOf_11 : decode cX2_touchOf 11 = .ok (.getfield 9, 3) := by decide +kernel
theorem dX2_touchOf_14 : decode cX2_touchOf 14 = .ok (.iload_n 1, 1) := by decide +kernel
theorem dX2_touchOf_15 : decode cX2_touchOf 15 = .ok (.iaload, 1) := by decide +kernel
theorem dX2_touchOf_16 : decode cX2_touchOf 16 = .ok (.ifCond .eq 5, 3) := by decide +kernel
theorem dX2_touchOf_19 : decode cX2_touchOf 19 = .ok (.iconst 0, 1) := by decide +kernel
theorem dX2_touchOf_20 : decode cX2_touchOf 20 = .ok (.ireturn, 1) := by decide +kernel
theorem dX2_touchOf_21 : decode cX2_touchOf 21 = .ok (.aload_n 0, 1) := by decide +kernel
theorem dX2_touchOf_22 : decode cX2_touchOf 22 = .ok (.getfield 15, 3) := by decide +kernel
theorem dX2_touchOf_25 : decode cX2_touchOf 25 = .ok (.iload_n 1, 1) := by decide +kernel
theorem dX2_touchOf_26 : decode cX2_touchOf 26 = .ok (.iaload, 1) := by decide +kernel
theorem dX2_touchOf_27 : decode cX2_touchOf 27 = .ok (.ifCond .ne 7, 3) := by decide +kernel
theorem dX2_touchOf_30 : decode cX2_touchOf 30 = .ok (.iconst 1, 1) := by decide +kernel
theorem dX2_touchOf_31 : decode cX2_touchOf 31 = .ok (.goto 4, 3) := by decide +kernel
theorem dX2_touchOf_34 : decode cX2_touchOf 34 = .ok (.iconst 2, 1) := by decide +kernel
theorem dX2_touchOf_35 : decode cX2_touchOf 35 = .ok (.ireturn, 1) := by decide +kernel
theorem dX3_init_0 : decode cX3_init 0 = .ok (.aload_n 0, 1) := by decide +kernel
theorem dX3_init_1 : decode cX3_init 1 = .ok (.invokespecial 3, 3) := by decide +kernel
theorem dX3_init_4 : decode cX3_init 4 = .ok (.aload_n 0, 1) := by decide +kernel
theorem dX3_init_5 : decode cX3_init 5 = .ok (.iconst (-1), 1) := by decide +kernel
theorem dX3_init_6 : decode cX3_init 6 = .ok (.putfield 9, 3) := by decide +kernel
theorem dX3_init_9 : decode cX3_init 9 = .ok (.return_, 1) := by decide +kernel
theorem dX3_take_0 : decode cX3_take 0 = .ok (.aload_n 0, 1) := by decide +kernel
theorem dX3_take_1 : decode cX3_take 1 = .ok (.iload_n 1, 1) := by decide +kernel
theorem dX3_take_2 : decode cX3_take 2 = .ok (.putfield 9, 3) := by decide +kernel
theorem dX3_take_5 : decode cX3_take 5 = .ok (.aload_n 0, 1) := by decide +kernel
theorem dX3_take_6 : decode cX3_take 6 = .ok (.aload_n 2, 1) := by decide +kernel
theorem dX3_take_7 : decode cX3_take 7 = .ok (.putfield 15, 3) := by decide +kernel
theorem dX3_take_10 : decode cX3_take 10 = .ok (.aload_n 0, 1) := by decide +kernel
theorem dX3_take_11 : decode cX3_take 11 = .ok (.aload_n 3, 1) := by decide +kernel
theorem dX3_take_12 : decode cX3_take 12 = .ok (.putfield 19, 3) := by decide +kernel
theorem dX3_take_15 : decode cX3_take 15 = .ok (.aload_n 0, 1) := by decide +kernel
theorem dX3_take_16 : decode cX3_take 16 = .ok (.aload 4, 2) := by decide +kernel
theorem dX3_take_18 : decode cX3_take 18 = .ok (.putfield 23, 3) := by decide +kernel
theorem dX3_take_21 : decode cX3_take 21 = .ok (.aload_n 0, 1) := by decide +kernel
theorem dX3_take_22 : decode cX3_take 22 = .ok (.aconst_null, 1) := by decide +kernel
theorem dX3_take_23 : decode cX3_take 23 = .ok (.putfield 26, 3) := by decide +kernel
theorem dX3_take_26 : decode cX3_take 26 = .ok (.aload_n 0, 1) := by decide +kernel
theorem dX3_take_27 : decode cX3_take 27 = .ok (.iconst 0, 1) := by decide +kernel
theorem dX3_take_28 : decode cX3_take 28 = .ok (.putfield 30, 3) := by decide +kernel
theorem dX3_take_31 : decode cX3_take 31 = .ok (.return_, 1) := by decide +kernel
theorem dX3_empty_0 : decode cX3_empty 0 = .ok (.aload_n 0, 1) := by decide +kernel
theorem dX3_empty_1 : decode cX3_empty 1 = .ok (.iconst (-1), 1) := by decide +kernel
theorem dX3_empty_2 : decode cX3_empty 2 = .ok (.aconst_null, 1) := by decide +kernel
theorem dX3_empty_3 : decode cX3_empty 3 = .ok (.aconst_null, 1) := by decide +kernel
theorem dX3_empty_4 : decode cX3_empty 4 = .ok (.aconst_null, 1) := by decide +kernel
theorem dX3_empty_5 : decode cX3_empty 5 = .ok (.invokevirtual 34, 3) := by decide +kernel
theorem dX3_empty_8 : decode cX3_empty 8 = .ok (.return_, 1) := by decide +kernel
theorem dX3_weaponNumber_0 : decode cX3_weaponNumber 0 = .ok (.iload_n 1, 1) := by decide +kernel
theorem dX3_weaponNumber_1 : decode cX3_weaponNumber 1 = .ok (.ifCond .ne 10, 3) := by decide +kernel
theorem dX3_weaponNumber_4 : decode cX3_weaponNumber 4 = .ok (.aload_n 0, 1) := by decide +kernel
theorem dX3_weaponNumber_5 : decode cX3_weaponNumber 5 = .ok (.getfield 19, 3) := by decide +kernel
theorem dX3_weaponNumber_8 : decode cX3_weaponNumber 8 = .ok (.goto 7, 3) := by decide +kernel
theorem dX3_weaponNumber_11 : decode cX3_weaponNumber 11 = .ok (.aload_n 0, 1) := by decide +kernel
theorem dX3_weaponNumber_12 : decode cX3_weaponNumber 12 = .ok (.getfield 23, 3) := by decide +kernel
theorem dX3_weaponNumber_15 : decode cX3_weaponNumber 15 = .ok (.astore_n 2, 1) := by decide +kernel
theorem dX3_weaponNumber_16 : decode cX3_weaponNumber 16 = .ok (.aload_n 2, 1) := by decide +kernel
theorem dX3_weaponNumber_17 : decode cX3_weaponNumber 17 = .ok (.ifnonnull 7, 3) := by decide +kernel
theorem dX3_weaponNumber_20 : decode cX3_weaponNumber 20 = .ok (.iconst (-1), 1) := by decide +kernel
theorem dX3_weaponNumber_21 : decode cX3_weaponNumber 21 = .ok (.goto 7, 3) := by decide +kernel
theorem dX3_weaponNumber_24 : decode cX3_weaponNumber 24 = .ok (.aload_n 2, 1) := by decide +kernel
theorem dX3_weaponNumber_25 : decode cX3_weaponNumber 25 = .ok (.getfield 38, 3) := by decide +kernel
theorem dX3_weaponNumber_28 : decode cX3_weaponNumber 28 = .ok (.ireturn, 1) := by decide +kernel
theorem dX3_arm_0 : decode cX3_arm 0 = .ok (.iload_n 1, 1) := by decide +kernel
theorem dX3_arm_1 : decode cX3_arm 1 = .ok (.ifCond .ne 11, 3) := by decide +kernel
theorem dX3_arm_4 : decode cX3_arm 4 = .ok (.aload_n 0, 1) := by decide +kernel
theorem dX3_arm_5 : decode cX3_arm 5 = .ok (.aload_n 2, 1) := by decide +kernel
theorem dX3_arm_6 : decode cX3_arm 6 = .ok (.putfield 19, 3) := by decide +kernel
theorem dX3_arm_9 : decode cX3_arm 9 = .ok (.goto 8, 3) := by decide +kernel
theorem dX3_arm_12 : decode cX3_arm 12 = .ok (.aload_n 0, 1) := by decide +kernel
theorem dX3_arm_13 : decode cX3_arm 13 = .ok (.aload_n 2, 1) := by decide +kernel
theorem dX3_arm_14 : decode cX3_arm 14 = .ok (.putfield 23, 3) := by decide +kernel
theorem dX3_arm_17 : decode cX3_arm 17 = .ok (.return_, 1) := by decide +kernel
theorem dX4_init_0 : decode cX4_init 0 = .ok (.aload_n 0, 1) := by decide +kernel
theorem dX4_init_1 : decode cX4_init 1 = .ok (.invokespecial 3, 3) := by decide +kernel
theorem dX4_init_4 : decode cX4_init 4 = .ok (.aload_n 0, 1) := by decide +kernel
theorem dX4_init_5 : decode cX4_init 5 = .ok (.bipush 16, 2) := by decide +kernel
theorem dX4_init_7 : decode cX4_init 7 = .ok (.newarray .int, 2) := by decide +kernel
theorem dX4_init_9 : decode cX4_init 9 = .ok (.putfield 9, 3) := by decide +kernel
theorem dX4_init_12 : decode cX4_init 12 = .ok (.aload_n 0, 1) := by decide +kernel
theorem dX4_init_13 : decode cX4_init 13 = .ok (.bipush 32, 2) := by decide +kernel
theorem dX4_init_15 : decode cX4_init 15 = .ok (.newarray .int, 2) := by decide +kernel
theorem dX4_init_17 : decode cX4_init 17 = .ok (.putfield 15, 3) := by decide +kernel
theorem dX4_init_20 : decode cX4_init 20 = .ok (.aload_n 0, 1) := by decide +kernel
theorem dX4_init_21 : decode cX4_init 21 = .ok (.bipush 16, 2) := by decide +kernel
theorem dX4_init_23 : decode cX4_init 23 = .ok (.anewarray 18, 3) := by decide +kernel
theorem dX4_init_26 : decode cX4_init 26 = .ok (.putfield 20, 3) := by decide +kernel
theorem dX4_init_29 : decode cX4_init 29 = .ok (.return_, 1) := by decide +kernel
theorem dX4_isDrawn_0 : decode cX4_isDrawn 0 = .ok (.aload_n 0, 1) := by decide +kernel
theorem dX4_isDrawn_1 : decode cX4_isDrawn 1 = .ok (.getfield 24, 3) := by decide +kernel
theorem dX4_isDrawn_4 : decode cX4_isDrawn 4 = .ok (.ifCond .le 7, 3) := by decide +kernel
theorem dX4_isDrawn_7 : decode cX4_isDrawn 7 = .ok (.iconst 1, 1) := by decide +kernel
theorem dX4_isDrawn_8 : decode cX4_isDrawn 8 = .ok (.goto 4, 3) := by decide +kernel
theorem dX4_isDrawn_11 : decode cX4_isDrawn 11 = .ok (.iconst 0, 1) := by decide +kernel
theorem dX4_isDrawn_12 : decode cX4_isDrawn 12 = .ok (.ireturn, 1) := by decide +kernel
theorem dX4_hasNode_0 : decode cX4_hasNode 0 = .ok (.iload_n 1, 1) := by decide +kernel
theorem dX4_hasNode_1 : decode cX4_hasNode 1 = .ok (.iconst 1, 1) := by decide +kernel
theorem dX4_hasNode_2 : decode cX4_hasNode 2 = .ok (.if_icmp .lt 23, 3) := by decide +kernel
theorem dX4_hasNode_5 : decode cX4_hasNode 5 = .ok (.iload_n 1, 1) := by decide +kernel
theorem dX4_hasNode_6 : decode cX4_hasNode 6 = .ok (.iconst 2, 1) := by decide +kernel
theorem dX4_hasNode_7 : decode cX4_hasNode 7 = .ok (.aload_n 0, 1) := by decide +kernel
theorem dX4_hasNode_8 : decode cX4_hasNode 8 = .ok (.getfield 24, 3) := by decide +kernel
theorem dX4_hasNode_11 : decode cX4_hasNode 11 = .ok (.imul, 1) := by decide +kernel
theorem dX4_hasNode_12 : decode cX4_hasNode 12 = .ok (.if_icmp .ge 13, 3) := by decide +kernel
theorem dX4_hasNode_15 : decode cX4_hasNode 15 = .ok (.iload_n 1, 1) := by decide +kernel
theorem dX4_hasNode_16 : decode cX4_hasNode 16 = .ok (.bipush 32, 2) := by decide +kernel
theorem dX4_hasNode_18 : decode cX4_hasNode 18 = .ok (.if_icmp .ge 7, 3) := by decide +kernel
theorem dX4_hasNode_21 : decode cX4_hasNode 21 = .ok (.iconst 1, 1) := by decide +kernel
theorem dX4_hasNode_22 : decode cX4_hasNode 22 = .ok (.goto 4, 3) := by decide +kernel
theorem dX4_hasNode_25 : decode cX4_hasNode 25 = .ok (.iconst 0, 1) := by decide +kernel
theorem dX4_hasNode_26 : decode cX4_hasNode 26 = .ok (.ireturn, 1) := by decide +kernel
theorem dX4_winnerAt_0 : decode cX4_winnerAt 0 = .ok (.aload_n 0, 1) := by decide +kernel
theorem dX4_winnerAt_1 : decode cX4_winnerAt 1 = .ok (.iload_n 1, 1) := by decide +kernel
theorem dX4_winnerAt_2 : decode cX4_winnerAt 2 = .ok (.invokevirtual 28, 3) := by decide +kernel
theorem dX4_winnerAt_5 : decode cX4_winnerAt 5 = .ok (.ifCond .eq 12, 3) := by decide +kernel
theorem dX4_winnerAt_8 : decode cX4_winnerAt 8 = .ok (.aload_n 0, 1) := by decide +kernel
theorem dX4_winnerAt_9 : decode cX4_winnerAt 9 = .ok (.getfield 15, 3) := by decide +kernel
theorem dX4_winnerAt_12 : decode cX4_winnerAt 12 = .ok (.iload_n 1, 1) := by decide +kernel
theorem dX4_winnerAt_13 : decode cX4_winnerAt 13 = .ok (.iaload, 1) := by decide +kernel
theorem dX4_winnerAt_14 : decode cX4_winnerAt 14 = .ok (.goto 4, 3) := by decide +kernel
theorem dX4_winnerAt_17 : decode cX4_winnerAt 17 = .ok (.iconst (-1), 1) := by decide +kernel
theorem dX4_winnerAt_18 : decode cX4_winnerAt 18 = .ok (.ireturn, 1) := by decide +kernel
theorem dX4_boutAt_0 : decode cX4_boutAt 0 = .ok (.iload_n 1, 1) := by decide +kernel
theorem dX4_boutAt_1 : decode cX4_boutAt 1 = .ok (.iconst 1, 1) := by decide +kernel
theorem dX4_boutAt_2 : decode cX4_boutAt 2 = .ok (.if_icmp .lt 26, 3) := by decide +kernel
theorem dX4_boutAt_5 : decode cX4_boutAt 5 = .ok (.iload_n 1, 1) := by decide +kernel
theorem dX4_boutAt_6 : decode cX4_boutAt 6 = .ok (.aload_n 0, 1) := by decide +kernel
theorem dX4_boutAt_7 : decode cX4_boutAt 7 = .ok (.getfield 24, 3) := by decide +kernel
theorem dX4_boutAt_10 : decode cX4_boutAt 10 = .ok (.if_icmp .ge 18, 3) := by decide +kernel
theorem dX4_boutAt_13 : decode cX4_boutAt 13 = .ok (.iload_n 1, 1) := by decide +kernel
theorem dX4_boutAt_14 : decode cX4_boutAt 14 = .ok (.bipush 16, 2) := by decide +kernel
theorem dX4_boutAt_16 : decode cX4_boutAt 16 = .ok (.if_icmp .ge 12, 3) := by decide +kernel
theorem dX4_boutAt_19 : decode cX4_boutAt 19 = .ok (.aload_n 0, 1) := by decide +kernel
theorem dX4_boutAt_20 : decode cX4_boutAt 20 = .ok (.getfield 20, 3) := by decide +kernel
theorem dX4_boutAt_23 : decode cX4_boutAt 23 = .ok (.iload_n 1, 1) := by decide +kernel
theorem dX4_boutAt_24 : decode cX4_boutAt 24 = .ok (.aaload, 1) := by decide +kernel
theorem dX4_boutAt_25 : decode cX4_boutAt 25 = .ok (.goto 4, 3) := by decide +kernel
theorem dX4_boutAt_28 : decode cX4_boutAt 28 = .ok (.aconst_null, 1) := by decide +kernel
theorem dX4_boutAt_29 : decode cX4_boutAt 29 = .ok (.areturn, 1) := by decide +kernel
theorem dX4_lay_0 : decode cX4_lay 0 = .ok (.iconst 2, 1) := by decide +kernel
theorem dX4_lay_1 : decode cX4_lay 1 = .ok (.istore_n 2, 1) := by decide +kernel
theorem dX4_lay_2 : decode cX4_lay 2 = .ok (.iload_n 2, 1) := by decide +kernel
theorem dX4_lay_3 : decode cX4_lay 3 = .ok (.iload_n 1, 1) := by decide +kernel
theorem dX4_lay_4 : decode cX4_lay 4 = .ok (.if_icmp .ge 16, 3) := by decide +kernel
theorem dX4_lay_7 : decode cX4_lay 7 = .ok (.iload_n 2, 1) := by decide +kernel
theorem dX4_lay_8 : decode cX4_lay 8 = .ok (.bipush 16, 2) := by decide +kernel
theorem dX4_lay_10 : decode cX4_lay 10 = .ok (.if_icmp .ge 10, 3) := by decide +kernel
theorem dX4_lay_13 : decode cX4_lay 13 = .ok (.iload_n 2, 1) := by decide +kernel
theorem dX4_lay_14 : decode cX4_lay 14 = .ok (.iconst 2, 1) := by decide +kernel
theorem dX4_lay_15 : decode cX4_lay 15 = .ok (.imul, 1) := by decide +kernel
theorem dX4_lay_16 : decode cX4_lay 16 = .ok (.istore_n 2, 1) := by decide +kernel
theorem dX4_lay_17 : decode cX4_lay 17 = .ok (.goto (-15), 3) := by decide +kernel
theorem dX4_lay_20 : decode cX4_lay 20 = .ok (.aload_n 0, 1) := by decide +kernel
theorem dX4_lay_21 : decode cX4_lay 21 = .ok (.iload_n 2, 1) := by decide +kernel
theorem dX4_lay_22 : decode cX4_lay 22 = .ok (.putfield 24, 3) := by decide +kernel
theorem dX4_lay_25 : decode cX4_lay 25 = .ok (.iconst 0, 1) := by decide +kernel
theorem dX4_lay_26 : decode cX4_lay 26 = .ok (.istore_n 3, 1) := by decide +kernel
theorem dX4_lay_27 : decode cX4_lay 27 = .ok (.iload_n 3, 1) := by decide +kernel
theorem dX4_lay_28 : decode cX4_lay 28 = .ok (.bipush 32, 2) := by decide +kernel
theorem dX4_lay_30 : decode cX4_lay 30 = .ok (.if_icmp .ge 16, 3) := by decide +kernel
theorem dX4_lay_33 : decode cX4_lay 33 = .ok (.aload_n 0, 1) := by decide +kernel
theorem dX4_lay_34 : decode cX4_lay 34 = .ok (.getfield 15, 3) := by decide +kernel
theorem dX4_lay_37 : decode cX4_lay 37 = .ok (.iload_n 3, 1) := by decide +kernel
theorem dX4_lay_38 : decode cX4_lay 38 = .ok (.iconst (-1), 1) := by decide +kernel
theorem dX4_lay_39 : decode cX4_lay 39 = .ok (.iastore, 1) := by decide +kernel
theorem dX4_lay_40 : decode cX4_lay 40 = .ok (.iinc 3 1, 3) := by decide +kernel
theorem dX4_lay_43 : decode cX4_lay 43 = .ok (.goto (-16), 3) := by decide +kernel
theorem dX4_lay_46 : decode cX4_lay 46 = .ok (.iconst 1, 1) := by decide +kernel
theorem dX4_lay_47 : decode cX4_lay 47 = .ok (.istore_n 3, 1) := by decide +kernel
theorem dX4_lay_48 : decode cX4_lay 48 = .ok (.iload_n 3, 1) := by decide +kernel
theorem dX4_lay_49 : decode cX4_lay 49 = .ok (.aload_n 0, 1) := by decide +kernel
theorem dX4_lay_50 : decode cX4_lay 50 = .ok (.getfield 24, 3) := by decide +kernel
theorem dX4_lay_53 : decode cX4_lay 53 = .ok (.if_icmp .ge 31, 3) := by decide +kernel
theorem dX4_lay_56 : decode cX4_lay 56 = .ok (.iload_n 3, 1) := by decide +kernel
theorem dX4_lay_57 : decode cX4_lay 57 = .ok (.bipush 16, 2) := by decide +kernel
theorem dX4_lay_59 : decode cX4_lay 59 = .ok (.if_icmp .ge 25, 3) := by decide +kernel
theorem dX4_lay_62 : decode cX4_lay 62 = .ok (.aload_n 0, 1) := by decide +kernel
theorem dX4_lay_63 : decode cX4_lay 63 = .ok (.getfield 20, 3) := by decide +kernel
theorem dX4_lay_66 : decode cX4_lay 66 = .ok (.iload_n 3, 1) := by decide +kernel
theorem dX4_lay_67 : decode cX4_lay 67 = .ok (.new 18, 3) := by decide +kernel
theorem dX4_lay_70 : decode cX4_lay 70 = .ok (.dup, 1) := by decide +kernel
theorem dX4_lay_71 : decode cX4_lay 71 = .ok (.iconst 0, 1) := by decide +kernel
theorem dX4_lay_72 : decode cX4_lay 72 = .ok (.iconst (-1), 1) := by decide +kernel
theorem dX4_lay_73 : decode cX4_lay 73 = .ok (.iconst (-1), 1) := by decide +kernel
theorem dX4_lay_74 : decode cX4_lay 74 = .ok (.invokespecial 32, 3) := by decide +kernel
theorem dX4_lay_77 : decode cX4_lay 77 = .ok (.aastore, 1) := by decide +kernel
theorem dX4_lay_78 : decode cX4_lay 78 = .ok (.iinc 3 1, 3) := by decide +kernel
theorem dX4_lay_81 : decode cX4_lay 81 = .ok (.goto (-33), 3) := by decide +kernel
theorem dX4_lay_84 : decode cX4_lay 84 = .ok (.aload_n 0, 1) := by decide +kernel
theorem dX4_lay_85 : decode cX4_lay 85 = .ok (.invokevirtual 35, 3) := by decide +kernel
theorem dX4_lay_88 : decode cX4_lay 88 = .ok (.return_, 1) := by decide +kernel
theorem dX4_laySeeds_0 : decode cX4_laySeeds 0 = .ok (.aload_n 0, 1) := by decide +kernel
theorem dX4_laySeeds_1 : decode cX4_laySeeds 1 = .ok (.getfield 9, 3) := by decide +kernel
theorem dX4_laySeeds_4 : decode cX4_laySeeds 4 = .ok (.iconst 0, 1) := by decide +kernel
theorem dX4_laySeeds_5 : decode cX4_laySeeds 5 = .ok (.iconst 1, 1) := by decide +kernel
theorem dX4_laySeeds_6 : decode cX4_laySeeds 6 = .ok (.iastore, 1) := by decide +kernel
theorem dX4_laySeeds_7 : decode cX4_laySeeds 7 = .ok (.aload_n 0, 1) := by decide +kernel
theorem dX4_laySeeds_8 : decode cX4_laySeeds 8 = .ok (.getfield 9, 3) := by decide +kernel
theorem dX4_laySeeds_11 : decode cX4_laySeeds 11 = .ok (.iconst 1, 1) := by decide +kernel
theorem dX4_laySeeds_12 : decode cX4_laySeeds 12 = .ok (.iconst 2, 1) := by decide +kernel
theorem dX4_laySeeds_13 : decode cX4_laySeeds 13 = .ok (.iastore, 1) := by decide +kernel
theorem dX4_laySeeds_14 : decode cX4_laySeeds 14 = .ok (.iconst 2, 1) := by decide +kernel
theorem dX4_laySeeds_15 : decode cX4_laySeeds 15 = .ok (.istore_n 1, 1) := by decide +kernel
theorem dX4_laySeeds_16 : decode cX4_laySeeds 16 = .ok (.iload_n 1, 1) := by decide +kernel
theorem dX4_laySeeds_17 : decode cX4_laySeeds 17 = .ok (.aload_n 0, 1) := by decide +kernel
theorem dX4_laySeeds_18 : decode cX4_laySeeds 18 = .ok (.getfield 24, 3) := by decide +kernel
theorem dX4_laySeeds_21 : decode cX4_laySeeds 21 = .ok (.if_icmp .ge 65, 3) := by decide +kernel
theorem dX4_laySeeds_24 : decode cX4_laySeeds 24 = .ok (.iconst 2, 1) := by decide +kernel
theorem dX4_laySeeds_25 : decode cX4_laySeeds 25 = .ok (.iload_n 1, 1) := by decide +kernel
theorem dX4_laySeeds_26 : decode cX4_laySeeds 26 = .ok (.imul, 1) := by decide +kernel
theorem dX4_laySeeds_27 : decode cX4_laySeeds 27 = .ok (.bipush 16, 2) := by decide +kernel
theorem dX4_laySeeds_29 : decode cX4_laySeeds 29 = .ok (.if_icmp .gt 57, 3) := by decide +kernel
theorem dX4_laySeeds_32 : decode cX4_laySeeds 32 = .ok (.iload_n 1, 1) := by decide +kernel
theorem dX4_laySeeds_33 : decode cX4_laySeeds 33 = .ok (.iconst 1, 1) := by decide +kernel
theorem dX4_laySeeds_34 : decode cX4_laySeeds 34 = .ok (.isub, 1) := by decide +kernel
theorem dX4_laySeeds_35 : decode cX4_laySeeds 35 = .ok (.istore_n 2, 1) := by decide +kernel
theorem dX4_laySeeds_36 : decode cX4_laySeeds 36 = .ok (.iload_n 2, 1) := by decide +kernel
theorem dX4_laySeeds_37 : decode cX4_laySeeds 37 = .ok (.ifCond .lt 42, 3) := by decide +kernel
theorem dX4_laySeeds_40 : decode cX4_laySeeds 40 = .ok (.aload_n 0, 1) := by decide +kernel
theorem dX4_laySeeds_41 : decode cX4_laySeeds 41 = .ok (.getfield 9, 3) := by decide +kernel
theorem dX4_laySeeds_44 : decode cX4_laySeeds 44 = .ok (.iload_n 2, 1) := by decide +kernel
theorem dX4_laySeeds_45 : decode cX4_laySeeds 45 = .ok (.iaload, 1) := by decide +kernel
theorem dX4_laySeeds_46 : decode cX4_laySeeds 46 = .ok (.istore_n 3, 1) := by decide +kernel
theorem dX4_laySeeds_47 : decode cX4_laySeeds 47 = .ok (.aload_n 0, 1) := by decide +kernel
theorem dX4_laySeeds_48 : decode cX4_laySeeds 48 = .ok (.getfield 9, 3) := by decide +kernel
theorem dX4_laySeeds_51 : decode cX4_laySeeds 51 = .ok (.iconst 2, 1) := by decide +kernel
theorem dX4_laySeeds_52 : decode cX4_laySeeds 52 = .ok (.iload_n 2, 1) := by decide +kernel
theorem dX4_laySeeds_53 : decode cX4_laySeeds 53 = .ok (.imul, 1) := by decide +kernel
theorem dX4_laySeeds_54 : decode cX4_laySeeds 54 = .ok (.iload_n 3, 1) := by decide +kernel
theorem dX4_laySeeds_55 : decode cX4_laySeeds 55 = .ok (.iastore, 1) := by decide +kernel
theorem dX4_laySeeds_56 : decode cX4_laySeeds 56 = .ok (.aload_n 0, 1) := by decide +kernel
theorem dX4_laySeeds_57 : decode cX4_laySeeds 57 = .ok (.getfield 9, 3) := by decide +kernel
theorem dX4_laySeeds_60 : decode cX4_laySeeds 60 = .ok (.iconst 2, 1) := by decide +kernel
theorem dX4_laySeeds_61 : decode cX4_laySeeds 61 = .ok (.iload_n 2, 1) := by decide +kernel
theorem dX4_laySeeds_62 : decode cX4_laySeeds 62 = .ok (.imul, 1) := by decide +kernel
theorem dX4_laySeeds_63 : decode cX4_laySeeds 63 = .ok (.iconst 1, 1) := by decide +kernel
theorem dX4_laySeeds_64 : decode cX4_laySeeds 64 = .ok (.iadd, 1) := by decide +kernel
theorem dX4_laySeeds_65 : decode cX4_laySeeds 65 = .ok (.iconst 2, 1) := by decide +kernel
theorem dX4_laySeeds_66 : decode cX4_laySeeds 66 = .ok (.iload_n 1, 1) := by decide +kernel
theorem dX4_laySeeds_67 : decode cX4_laySeeds 67 = .ok (.imul, 1) := by decide +kernel
theorem dX4_laySeeds_68 : decode cX4_laySeeds 68 = .ok (.iconst 1, 1) := by decide +kernel
theorem dX4_laySeeds_69 : decode cX4_laySeeds 69 = .ok (.iadd, 1) := by decide +kernel
theorem dX4_laySeeds_70 : decode cX4_laySeeds 70 = .ok (.iload_n 3, 1) := by decide +kernel
theorem dX4_laySeeds_71 : decode cX4_laySeeds 71 = .ok (.isub, 1) := by decide +kernel
theorem dX4_laySeeds_72 : decode cX4_laySeeds 72 = .ok (.iastore, 1) := by decide +kernel
theorem dX4_laySeeds_73 : decode cX4_laySeeds 73 = .ok (.iinc 2 (-1), 3) := by decide +kernel
theorem dX4_laySeeds_76 : decode cX4_laySeeds 76 = .ok (.goto (-40), 3) := by decide +kernel
theorem dX4_laySeeds_79 : decode cX4_laySeeds 79 = .ok (.iload_n 1, 1) := by decide +kernel
theorem dX4_laySeeds_80 : decode cX4_laySeeds 80 = .ok (.iconst 2, 1) := by decide +kernel
theorem dX4_laySeeds_81 : decode cX4_laySeeds 81 = .ok (.imul, 1) := by decide +kernel
theorem dX4_laySeeds_82 : decode cX4_laySeeds 82 = .ok (.istore_n 1, 1) := by decide +kernel
theorem dX4_laySeeds_83 : decode cX4_laySeeds 83 = .ok (.goto (-67), 3) := by decide +kernel
theorem dX4_laySeeds_86 : decode cX4_laySeeds 86 = .ok (.return_, 1) := by decide +kernel
theorem dX4_seat_0 : decode cX4_seat 0 = .ok (.iconst 0, 1) := by decide +kernel
theorem dX4_seat_1 : decode cX4_seat 1 = .ok (.istore_n 3, 1) := by decide +kernel
theorem dX4_seat_2 : decode cX4_seat 2 = .ok (.iload_n 3, 1) := by decide +kernel
theorem dX4_seat_3 : decode cX4_seat 3 = .ok (.aload_n 0, 1) := by decide +kernel
theorem dX4_seat_4 : decode cX4_seat 4 = .ok (.getfield 24, 3) := by decide +kernel
theorem dX4_seat_7 : decode cX4_seat 7 = .ok (.if_icmp .ge 37, 3) := by decide +kernel
theorem dX4_seat_10 : decode cX4_seat 10 = .ok (.iload_n 3, 1) := by decide +kernel
theorem dX4_seat_11 : decode cX4_seat 11 = .ok (.bipush 16, 2) := by decide +kernel
theorem dX4_seat_13 : decode cX4_seat 13 = .ok (.if_icmp .ge 31, 3) := by decide +kernel
theorem dX4_seat_16 : decode cX4_seat 16 = .ok (.aload_n 0, 1) := by decide +kernel
theorem dX4_seat_17 : decode cX4_seat 17 = .ok (.getfield 9, 3) := by decide +kernel
theorem dX4_seat_20 : decode cX4_seat 20 = .ok (.iload_n 3, 1) := by decide +kernel
theorem dX4_seat_21 : decode cX4_seat 21 = .ok (.iaload, 1) := by decide +kernel
theorem dX4_seat_22 : decode cX4_seat 22 = .ok (.iload_n 1, 1) := by decide +kernel
theorem dX4_seat_23 : decode cX4_seat 23 = .ok (.if_icmp .ne 15, 3) := by decide +kernel
theorem dX4_seat_26 : decode cX4_seat 26 = .ok (.aload_n 0, 1) := by decide +kernel
theorem dX4_seat_27 : decode cX4_seat 27 = .ok (.getfield 15, 3) := by decide +kernel
theorem dX4_seat_30 : decode cX4_seat 30 = .ok (.aload_n 0, 1) := by decide +kernel
theorem dX4_seat_31 : decode cX4_seat 31 = .ok (.getfield 24, 3) := by decide +kernel
theorem dX4_seat_34 : decode cX4_seat 34 = .ok (.iload_n 3, 1) := by decide +kernel
theorem dX4_seat_35 : decode cX4_seat 35 = .ok (.iadd, 1) := by decide +kernel
theorem dX4_seat_36 : decode cX4_seat 36 = .ok (.iload_n 2, 1) := by decide +kernel
theorem dX4_seat_37 : decode cX4_seat 37 = .ok (.iastore, 1) := by decide +kernel
theorem dX4_seat_38 : decode cX4_seat 38 = .ok (.iinc 3 1, 3) := by decide +kernel
theorem dX4_seat_41 : decode cX4_seat 41 = .ok (.goto (-39), 3) := by decide +kernel
theorem dX4_seat_44 : decode cX4_seat 44 = .ok (.return_, 1) := by decide +kernel
theorem dX4_recount_0 : decode cX4_recount 0 = .ok (.iconst 1, 1) := by decide +kernel
theorem dX4_recount_1 : decode cX4_recount 1 = .ok (.istore_n 1, 1) := by decide +kernel
theorem dX4_recount_2 : decode cX4_recount 2 = .ok (.iload_n 1, 1) := by decide +kernel
theorem dX4_recount_3 : decode cX4_recount 3 = .ok (.aload_n 0, 1) := by decide +kernel
theorem dX4_recount_4 : decode cX4_recount 4 = .ok (.getfield 24, 3) := by decide +kernel
theorem dX4_recount_7 : decode cX4_recount 7 = .ok (.if_icmp .ge 23, 3) := by decide +kernel
theorem dX4_recount_10 : decode cX4_recount 10 = .ok (.aload_n 0, 1) := by decide +kernel
theorem dX4_recount_11 : decode cX4_recount 11 = .ok (.iload_n 1, 1) := by decide +kernel
theorem dX4_recount_12 : decode cX4_recount 12 = .ok (.invokevirtual 38, 3) := by decide +kernel
theorem dX4_recount_15 : decode cX4_recount 15 = .ok (.astore_n 2, 1) := by decide +kernel
theorem dX4_recount_16 : decode cX4_recount 16 = .ok (.aload_n 2, 1) := by decide +kernel
theorem dX4_recount_17 : decode cX4_recount 17 = .ok (.ifnull 7, 3) := by decide +kernel
theorem dX4_recount_20 : decode cX4_recount 20 = .ok (.aload_n 2, 1) := by decide +kernel
theorem dX4_recount_21 : decode cX4_recount 21 = .ok (.invokevirtual 42, 3) := by decide +kernel
theorem dX4_recount_24 : decode cX4_recount 24 = .ok (.iinc 1 1, 3) := by decide +kernel
theorem dX4_recount_27 : decode cX4_recount 27 = .ok (.goto (-25), 3) := by decide +kernel
theorem dX4_recount_30 : decode cX4_recount 30 = .ok (.return_, 1) := by decide +kernel
theorem dX4_settle_0 : decode cX4_settle 0 = .ok (.aload_n 0, 1) := by decide +kernel
theorem dX4_settle_1 : decode cX4_settle 1 = .ok (.getfield 24, 3) := by decide +kernel
theorem dX4_settle_4 : decode cX4_settle 4 = .ok (.iconst 1, 1) := by decide +kernel
theorem dX4_settle_5 : decode cX4_settle 5 = .ok (.isub, 1) := by decide +kernel
theorem dX4_settle_6 : decode cX4_settle 6 = .ok (.istore_n 2, 1) := by decide +kernel
theorem dX4_settle_7 : decode cX4_settle 7 = .ok (.iload_n 2, 1) := by decide +kernel
theorem dX4_settle_8 : decode cX4_settle 8 = .ok (.iconst 1, 1) := by decide +kernel
theorem dX4_settle_9 : decode cX4_settle 9 = .ok (.if_icmp .lt 100, 3) := by decide +kernel
theorem dX4_settle_12 : decode cX4_settle 12 = .ok (.aload_n 0, 1) := by decide +kernel
theorem dX4_settle_13 : decode cX4_settle 13 = .ok (.iload_n 2, 1) := by decide +kernel
theorem dX4_settle_14 : decode cX4_settle 14 = .ok (.invokevirtual 38, 3) := by decide +kernel
theorem dX4_settle_17 : decode cX4_settle 17 = .ok (.astore_n 3, 1) := by decide +kernel
theorem dX4_settle_18 : decode cX4_settle 18 = .ok (.aload_n 3, 1) := by decide +kernel
theorem dX4_settle_19 : decode cX4_settle 19 = .ok (.ifnull 84, 3) := by decide +kernel
theorem dX4_settle_22 : decode cX4_settle 22 = .ok (.aload_n 0, 1) := by decide +kernel
theorem dX4_settle_23 : decode cX4_settle 23 = .ok (.iload_n 2, 1) := by decide +kernel
theorem dX4_settle_24 : decode cX4_settle 24 = .ok (.invokevirtual 28, 3) := by decide +kernel
theorem dX4_settle_27 : decode cX4_settle 27 = .ok (.ifCond .eq 76, 3) := by decide +kernel
theorem dX4_settle_30 : decode cX4_settle 30 = .ok (.aload_n 3, 1) := by decide +kernel
theorem dX4_settle_31 : decode cX4_settle 31 = .ok (.aload_n 0, 1) := by decide +kernel
theorem dX4_settle_32 : decode cX4_settle 32 = .ok (.iconst 2, 1) := by decide +kernel
theorem dX4_settle_33 : decode cX4_settle 33 = .ok (.iload_n 2, 1) := by decide +kernel
theorem dX4_settle_34 : decode cX4_settle 34 = .ok (.imul, 1) := by decide +kernel
theorem dX4_settle_35 : decode cX4_settle 35 = .ok (.invokevirtual 45, 3) := by decide +kernel
theorem dX4_settle_38 : decode cX4_settle 38 = .ok (.putfield 49, 3) := by decide +kernel
theorem dX4_settle_41 : decode cX4_settle 41 = .ok (.aload_n 3, 1) := by decide +kernel
theorem dX4_settle_42 : decode cX4_settle 42 = .ok (.aload_n 0, 1) := by decide +kernel
theorem dX4_settle_43 : decode cX4_settle 43 = .ok (.iconst 2, 1) := by decide +kernel
theorem dX4_settle_44 : decode cX4_settle 44 = .ok (.iload_n 2, 1) := by decide +kernel
theorem dX4_settle_45 : decode cX4_settle 45 = .ok (.imul, 1) := by decide +kernel
theorem dX4_settle_46 : decode cX4_settle 46 = .ok (.iconst 1, 1) := by decide +kernel
theorem dX4_settle_47 : decode cX4_settle 47 = .ok (.iadd, 1) := by decide +kernel
theorem dX4_settle_48 : decode cX4_settle 48 = .ok (.invokevirtual 45, 3) := by decide +kernel
theorem dX4_settle_51 : decode cX4_settle 51 = .ok (.putfield 52, 3) := by decide +kernel
theorem dX4_settle_54 : decode cX4_settle 54 = .ok (.aload_n 0, 1) := by decide +kernel
theorem dX4_settle_55 : decode cX4_settle 55 = .ok (.getfield 15, 3) := by decide +kernel
theorem dX4_settle_58 : decode cX4_settle 58 = .ok (.iload_n 2, 1) := by decide +kernel
theorem dX4_settle_59 : decode cX4_settle 59 = .ok (.iaload, 1) := by decide +kernel
theorem dX4_settle_60 : decode cX4_settle 60 = .ok (.istore 4, 2) := by decide +kernel
theorem dX4_settle_62 : decode cX4_settle 62 = .ok (.aload_n 0, 1) := by decide +kernel
theorem dX4_settle_63 : decode cX4_settle 63 = .ok (.getfield 15, 3) := by decide +kernel
theorem dX4_settle_66 : decode cX4_settle 66 = .ok (.iload_n 2, 1) := by decide +kernel
theorem dX4_settle_67 : decode cX4_settle 67 = .ok (.aload_n 0, 1) := by decide +kernel
theorem dX4_settle_68 : decode cX4_settle 68 = .ok (.iload_n 2, 1) := by decide +kernel
theorem dX4_settle_69 : decode cX4_settle 69 = .ok (.aload_n 3, 1) := by decide +kernel
theorem dX4_settle_70 : decode cX4_settle 70 = .ok (.invokevirtual 55, 3) := by decide +kernel
theorem dX4_settle_73 : decode cX4_settle 73 = .ok (.iastore, 1) := by decide +kernel
theorem dX4_settle_74 : decode cX4_settle 74 = .ok (.iload 4, 2) := by decide +kernel
theorem dX4_settle_76 : decode cX4_settle 76 = .ok (.iconst (-1), 1) := by decide +kernel
theorem dX4_settle_77 : decode cX4_settle 77 = .ok (.if_icmp .eq 26, 3) := by decide +kernel
theorem dX4_settle_80 : decode cX4_settle 80 = .ok (.iload 4, 2) := by decide +kernel
theorem dX4_settle_82 : decode cX4_settle 82 = .ok (.aload_n 0, 1) := by decide +kernel
theorem dX4_settle_83 : decode cX4_settle 83 = .ok (.getfield 15, 3) := by decide +kernel
theorem dX4_settle_86 : decode cX4_settle 86 = .ok (.iload_n 2, 1) := by decide +kernel
theorem dX4_settle_87 : decode cX4_settle 87 = .ok (.iaload, 1) := by decide +kernel
theorem dX4_settle_88 : decode cX4_settle 88 = .ok (.if_icmp .eq 15, 3) := by decide +kernel
theorem dX4_settle_91 : decode cX4_settle 91 = .ok (.aload_n 0, 1) := by decide +kernel
theorem dX4_settle_92 : decode cX4_settle 92 = .ok (.aload_n 0, 1) := by decide +kernel
theorem dX4_settle_93 : decode cX4_settle 93 = .ok (.iload_n 2, 1) := by decide +kernel
theorem dX4_settle_94 : decode cX4_settle 94 = .ok (.iconst 2, 1) := by decide +kernel
theorem dX4_settle_95 : decode cX4_settle 95 = .ok (.idiv, 1) := by decide +kernel
theorem dX4_settle_96 : decode cX4_settle 96 = .ok (.invokevirtual 38, 3) := by decide +kernel
theorem dX4_settle_99 : decode cX4_settle 99 = .ok (.aload_n 1, 1) := by decide +kernel
theorem dX4_settle_100 : decode cX4_settle 100 = .ok (.invokevirtual 59, 3) := by decide +kernel
theorem dX4_settle_103 : decode cX4_settle 103 = .ok (.iinc 2 (-1), 3) := by decide +kernel
theorem dX4_settle_106 : decode cX4_settle 106 = .ok (.goto (-99), 3) := by decide +kernel
theorem dX4_settle_109 : decode cX4_settle 109 = .ok (.return_, 1) := by decide +kernel
theorem dX4_winnerNow_0 : decode cX4_winnerNow 0 = .ok (.iconst 2, 1) := by decide +kernel
theorem dX4_winnerNow_1 : decode cX4_winnerNow 1 = .ok (.iload_n 1, 1) := by decide +kernel
theorem dX4_winnerNow_2 : decode cX4_winnerNow 2 = .ok (.imul, 1) := by decide +kernel
theorem dX4_winnerNow_3 : decode cX4_winnerNow 3 = .ok (.aload_n 0, 1) := by decide +kernel
theorem dX4_winnerNow_4 : decode cX4_winnerNow 4 = .ok (.getfield 24, 3) := by decide +kernel
theorem dX4_winnerNow_7 : decode cX4_winnerNow 7 = .ok (.if_icmp .lt 7, 3) := by decide +kernel
theorem dX4_winnerNow_10 : decode cX4_winnerNow 10 = .ok (.iconst 1, 1) := by decide +kernel
theorem dX4_winnerNow_11 : decode cX4_winnerNow 11 = .ok (.goto 4, 3) := by decide +kernel
theorem dX4_winnerNow_14 : decode cX4_winnerNow 14 = .ok (.iconst 0, 1) := by decide +kernel
theorem dX4_winnerNow_15 : decode cX4_winnerNow 15 = .ok (.istore_n 3, 1) := by decide +kernel
theorem dX4_winnerNow_16 : decode cX4_winnerNow 16 = .ok (.iload_n 3, 1) := by decide +kernel
theorem dX4_winnerNow_17 : decode cX4_winnerNow 17 = .ok (.ifCond .eq 16, 3) := by decide +kernel
theorem dX4_winnerNow_20 : decode cX4_winnerNow 20 = .ok (.aload_n 2, 1) := by decide +kernel
theorem dX4_winnerNow_21 : decode cX4_winnerNow 21 = .ok (.getfield 49, 3) := by decide +kernel
theorem dX4_winnerNow_24 : decode cX4_winnerNow 24 = .ok (.iconst (-1), 1) := by decide +kernel
theorem dX4_winnerNow_25 : decode cX4_winnerNow 25 = .ok (.if_icmp .ne 8, 3) := by decide +kernel
theorem dX4_winnerNow_28 : decode cX4_winnerNow 28 = .ok (.aload_n 2, 1) := by decide +kernel
theorem dX4_winnerNow_29 : decode cX4_winnerNow 29 = .ok (.getfield 52, 3) := by decide +kernel
theorem dX4_winnerNow_32 : decode cX4_winnerNow 32 = .ok (.ireturn, 1) := by decide +kernel
theorem dX4_winnerNow_33 : decode cX4_winnerNow 33 = .ok (.iload_n 3, 1) := by decide +kernel
theorem dX4_winnerNow_34 : decode cX4_winnerNow 34 = .ok (.ifCond .eq 16, 3) := by decide +kernel
theorem dX4_winnerNow_37 : decode cX4_winnerNow 37 = .ok (.aload_n 2, 1) := by decide +kernel
theorem dX4_winnerNow_38 : decode cX4_winnerNow 38 = .ok (.getfield 52, 3) := by decide +kernel
theorem dX4_winnerNow_41 : decode cX4_winnerNow 41 = .ok (.iconst (-1), 1) := by decide +kernel
theorem dX4_winnerNow_42 : decode cX4_winnerNow 42 = .ok (.if_icmp .ne 8, 3) := by decide +kernel
theorem dX4_winnerNow_45 : decode cX4_winnerNow 45 = .ok (.aload_n 2, 1) := by decide +kernel
theorem dX4_winnerNow_46 : decode cX4_winnerNow 46 = .ok (.getfield 49, 3) := by decide +kernel
theorem dX4_winnerNow_49 : decode cX4_winnerNow 49 = .ok (.ireturn, 1) := by decide +kernel
theorem dX4_winnerNow_50 : decode cX4_winnerNow 50 = .ok (.aload_n 2, 1) := by decide +kernel
theorem dX4_winnerNow_51 : decode cX4_winnerNow 51 = .ok (.invokevirtual 63, 3) := by decide +kernel
theorem dX4_winnerNow_54 : decode cX4_winnerNow 54 = .ok (.ireturn, 1) := by decide +kernel
theorem dX4_drop_0 : decode cX4_drop 0 = .ok (.aload_n 1, 1) := by decide +kernel
theorem dX4_drop_1 : decode cX4_drop 1 = .ok (.ifnonnull 4, 3) := by decide +kernel
theorem dX4_drop_4 : decode cX4_drop 4 = .ok (.return_, 1) := by decide +kernel
theorem dX4_drop_5 : decode cX4_drop 5 = .ok (.aload_n 1, 1) := by decide +kernel
theorem dX4_drop_6 : decode cX4_drop 6 = .ok (.getfield 67, 3) := by decide +kernel
theorem dX4_drop_9 : decode cX4_drop 9 = .ok (.ifCond .le 13, 3) := by decide +kernel
theorem dX4_drop_12 : decode cX4_drop 12 = .ok (.aload_n 0, 1) := by decide +kernel
theorem dX4_drop_13 : decode cX4_drop 13 = .ok (.dup, 1) := by decide +kernel
theorem dX4_drop_14 : decode cX4_drop 14 = .ok (.getfield 70, 3) := by decide +kernel
theorem dX4_drop_17 : decode cX4_drop 17 = .ok (.iconst 1, 1) := by decide +kernel
theorem dX4_drop_18 : decode cX4_drop 18 = .ok (.iadd, 1) := by decide +kernel
theorem dX4_drop_19 : decode cX4_drop 19 = .ok (.putfield 70, 3) := by decide +kernel
theorem dX4_drop_22 : decode cX4_drop 22 = .ok (.aload_n 1, 1) := by decide +kernel
theorem dX4_drop_23 : decode cX4_drop 23 = .ok (.invokevirtual 73, 3) := by decide +kernel
theorem dX4_drop_26 : decode cX4_drop 26 = .ok (.aload_n 2, 1) := by decide +kernel
theorem dX4_drop_27 : decode cX4_drop 27 = .ok (.getfield 76, 3) := by decide +kernel
theorem dX4_drop_30 : decode cX4_drop 30 = .ok (.aload_n 1, 1) := by decide +kernel
theorem dX4_drop_31 : decode cX4_drop 31 = .ok (.if_acmp .ne 7, 3) := by decide +kernel
theorem dX4_drop_34 : decode cX4_drop 34 = .ok (.aload_n 2, 1) := by decide +kernel
theorem dX4_drop_35 : decode cX4_drop 35 = .ok (.invokevirtual 82, 3) := by decide +kernel
theorem dX4_drop_38 : decode cX4_drop 38 = .ok (.return_, 1) := by decide +kernel
theorem dX5_init_0 : decode cX5_init 0 = .ok (.aload_n 0, 1) := by decide +kernel
theorem dX5_init_1 : decode cX5_init 1 = .ok (.invokespecial 3, 3) := by decide +kernel
theorem dX5_init_4 : decode cX5_init 4 = .ok (.return_, 1) := by decide +kernel
theorem dX5_restart_0 : decode cX5_restart 0 = .ok (.aload_n 0, 1) := by decide +kernel
theorem dX5_restart_1 : decode cX5_restart 1 = .ok (.iload_n 1, 1) := by decide +kernel
theorem dX5_restart_2 : decode cX5_restart 2 = .ok (.putfield 9, 3) := by decide +kernel
theorem dX5_restart_5 : decode cX5_restart 5 = .ok (.aload_n 0, 1) := by decide +kernel
theorem dX5_restart_6 : decode cX5_restart 6 = .ok (.iconst 0, 1) := by decide +kernel
theorem dX5_restart_7 : decode cX5_restart 7 = .ok (.putfield 15, 3) := by decide +kernel
theorem dX5_restart_10 : decode cX5_restart 10 = .ok (.aload_n 0, 1) := by decide +kernel
theorem dX5_restart_11 : decode cX5_restart 11 = .ok (.iconst 0, 1) := by decide +kernel
theorem dX5_restart_12 : decode cX5_restart 12 = .ok (.putfield 18, 3) := by decide +kernel
theorem dX5_restart_15 : decode cX5_restart 15 = .ok (.return_, 1) := by decide +kernel
theorem dX5_isAtGoal_0 : decode cX5_isAtGoal 0 = .ok (.aload_n 0, 1) := by decide +kernel
theorem dX5_isAtGoal_1 : decode cX5_isAtGoal 1 = .ok (.getfield 15, 3) := by decide +kernel
theorem dX5_isAtGoal_4 : decode cX5_isAtGoal 4 = .ok (.aload_n 0, 1) := by decide +kernel
theorem dX5_isAtGoal_5 : decode cX5_isAtGoal 5 = .ok (.getfield 9, 3) := by decide +kernel
theorem dX5_isAtGoal_8 : decode cX5_isAtGoal 8 = .ok (.if_icmp .ge 14, 3) := by decide +kernel
theorem dX5_isAtGoal_11 : decode cX5_isAtGoal 11 = .ok (.aload_n 0, 1) := by decide +kernel
theorem dX5_isAtGoal_12 : decode cX5_isAtGoal 12 = .ok (.getfield 18, 3) := by decide +kernel
theorem dX5_isAtGoal_15 : decode cX5_isAtGoal 15 = .ok (.aload_n 0, 1) := by decide +kernel
theorem dX5_isAtGoal_16 : decode cX5_isAtGoal 16 = .ok (.getfield 9, 3) := by decide +kernel
theorem dX5_isAtGoal_19 : decode cX5_isAtGoal 19 = .ok (.if_icmp .lt 7, 3) := by decide +kernel
theorem dX5_isAtGoal_22 : decode cX5_isAtGoal 22 = .ok (.iconst 1, 1) := by decide +kernel
theorem dX5_isAtGoal_23 : decode cX5_isAtGoal 23 = .ok (.goto 4, 3) := by decide +kernel
theorem dX5_isAtGoal_26 : decode cX5_isAtGoal 26 = .ok (.iconst 0, 1) := by decide +kernel
theorem dX5_isAtGoal_27 : decode cX5_isAtGoal 27 = .ok (.ireturn, 1) := by decide +kernel
theorem dX5_add_0 : decode cX5_add 0 = .ok (.aload_n 0, 1) := by decide +kernel
theorem dX5_add_1 : decode cX5_add 1 = .ok (.invokevirtual 21, 3) := by decide +kernel
theorem dX5_add_4 : decode cX5_add 4 = .ok (.ifCond .eq 4, 3) := by decide +kernel
theorem dX5_add_7 : decode cX5_add 7 = .ok (.return_, 1) := by decide +kernel
theorem dX5_add_8 : decode cX5_add 8 = .ok (.aload_n 0, 1) := by decide +kernel
theorem dX5_add_9 : decode cX5_add 9 = .ok (.getfield 15, 3) := by decide +kernel
theorem dX5_add_12 : decode cX5_add 12 = .ok (.iload_n 1, 1) := by decide +kernel
theorem dX5_add_13 : decode cX5_add 13 = .ok (.iconst 1, 1) := by decide +kernel
theorem dX5_add_14 : decode cX5_add 14 = .ok (.iand, 1) := by decide +kernel
theorem dX5_add_15 : decode cX5_add 15 = .ok (.ifCond .eq 7, 3) := by decide +kernel
theorem dX5_add_18 : decode cX5_add 18 = .ok (.iconst 1, 1) := by decide +kernel
theorem dX5_add_19 : decode cX5_add 19 = .ok (.goto 4, 3) := by decide +kernel
theorem dX5_add_22 : decode cX5_add 22 = .ok (.iconst 0, 1) := by decide +kernel
theorem dX5_add_23 : decode cX5_add 23 = .ok (.iadd, 1) := by decide +kernel
theorem dX5_add_24 : decode cX5_add 24 = .ok (.istore_n 2, 1) := by decide +kernel
theorem dX5_add_25 : decode cX5_add 25 = .ok (.aload_n 0, 1) := by decide +kernel
theorem dX5_add_26 : decode cX5_add 26 = .ok (.getfield 18, 3) := by decide +kernel
theorem dX5_add_29 : decode cX5_add 29 = .ok (.iload_n 1, 1) := by decide +kernel
theorem dX5_add_30 : decode cX5_add 30 = .ok (.iconst 2, 1) := by decide +kernel
theorem dX5_add_31 : decode cX5_add 31 = .ok (.iand, 1) := by decide +kernel
theorem dX5_add_32 : decode cX5_add 32 = .ok (.ifCond .eq 7, 3) := by decide +kernel
theorem dX5_add_35 : decode cX5_add 35 = .ok (.iconst 1, 1) := by decide +kernel
theorem dX5_add_36 : decode cX5_add 36 = .ok (.goto 4, 3) := by decide +kernel
theorem dX5_add_39 : decode cX5_add 39 = .ok (.iconst 0, 1) := by decide +kernel
theorem dX5_add_40 : decode cX5_add 40 = .ok (.iadd, 1) := by decide +kernel
theorem dX5_add_41 : decode cX5_add 41 = .ok (.istore_n 3, 1) := by decide +kernel
theorem dX5_add_42 : decode cX5_add 42 = .ok (.iload_n 2, 1) := by decide +kernel
theorem dX5_add_43 : decode cX5_add 43 = .ok (.aload_n 0, 1) := by decide +kernel
theorem dX5_add_44 : decode cX5_add 44 = .ok (.getfield 9, 3) := by decide +kernel
theorem dX5_add_47 : decode cX5_add 47 = .ok (.if_icmp .lt 12, 3) := by decide +kernel
theorem dX5_add_50 : decode cX5_add 50 = .ok (.iload_n 3, 1) := by decide +kernel
theorem dX5_add_51 : decode cX5_add 51 = .ok (.aload_n 0, 1) := by decide +kernel
theorem dX5_add_52 : decode cX5_add 52 = .ok (.getfield 9, 3) := by decide +kernel
theorem dX5_add_55 : decode cX5_add 55 = .ok (.if_icmp .lt 4, 3) := by decide +kernel
theorem dX5_add_58 : decode cX5_add 58 = .ok (.return_, 1) := by decide +kernel
theorem dX5_add_59 : decode cX5_add 59 = .ok (.aload_n 0, 1) := by decide +kernel
theorem dX5_add_60 : decode cX5_add 60 = .ok (.iload_n 2, 1) := by decide +kernel
theorem dX5_add_61 : decode cX5_add 61 = .ok (.putfield 15, 3) := by decide +kernel
theorem dX5_add_64 : decode cX5_add 64 = .ok (.aload_n 0, 1) := by decide +kernel
theorem dX5_add_65 : decode cX5_add 65 = .ok (.iload_n 3, 1) := by decide +kernel
theorem dX5_add_66 : decode cX5_add 66 = .ok (.putfield 18, 3) := by decide +kernel
theorem dX5_add_69 : decode cX5_add 69 = .ok (.return_, 1) := by decide +kernel
theorem dX5_of_0 : decode cX5_of 0 = .ok (.iload_n 1, 1) := by decide +kernel
theorem dX5_of_1 : decode cX5_of 1 = .ok (.ifCond .ne 10, 3) := by decide +kernel
theorem dX5_of_4 : decode cX5_of 4 = .ok (.aload_n 0, 1) := by decide +kernel
theorem dX5_of_5 : decode cX5_of 5 = .ok (.getfield 15, 3) := by decide +kernel
theorem dX5_of_8 : decode cX5_of 8 = .ok (.goto 7, 3) := by decide +kernel
theorem dX5_of_11 : decode cX5_of 11 = .ok (.aload_n 0, 1) := by decide +kernel
theorem dX5_of_12 : decode cX5_of 12 = .ok (.getfield 18, 3) := by decide +kernel
theorem dX5_of_15 : decode cX5_of 15 = .ok (.ireturn, 1) := by decide +kernel
theorem dX6_init_0 : decode cX6_init 0 = .ok (.aload_n 0, 1) := by decide +kernel
theorem dX6_init_1 : decode cX6_init 1 = .ok (.invokespecial 3, 3) := by decide +kernel
theorem dX6_init_4 : decode cX6_init 4 = .ok (.aload_n 0, 1) := by decide +kernel
theorem dX6_init_5 : decode cX6_init 5 = .ok (.iconst 0, 1) := by decide +kernel
theorem dX6_init_6 : decode cX6_init 6 = .ok (.putfield 9, 3) := by decide +kernel
theorem dX6_init_9 : decode cX6_init 9 = .ok (.aload_n 0, 1) := by decide +kernel
theorem dX6_init_10 : decode cX6_init 10 = .ok (.iload_n 1, 1) := by decide +kernel
theorem dX6_init_11 : decode cX6_init 11 = .ok (.putfield 15, 3) := by decide +kernel
theorem dX6_init_14 : decode cX6_init 14 = .ok (.aload_n 0, 1) := by decide +kernel
theorem dX6_init_15 : decode cX6_init 15 = .ok (.iload_n 2, 1) := by decide +kernel
theorem dX6_init_16 : decode cX6_init 16 = .ok (.putfield 18, 3) := by decide +kernel
theorem dX6_init_19 : decode cX6_init 19 = .ok (.return_, 1) := by decide +kernel
theorem dX6_isMarkedFor_0 : decode cX6_isMarkedFor 0 = .ok (.aload_n 0, 1) := by decide +kernel
theorem dX6_isMarkedFor_1 : decode cX6_isMarkedFor 1 = .ok (.getfield 9, 3) := by decide +kernel
theorem dX6_isMarkedFor_4 : decode cX6_isMarkedFor 4 = .ok (.iconst 1, 1) := by decide +kernel
theorem dX6_isMarkedFor_5 : decode cX6_isMarkedFor 5 = .ok (.if_icmp .ne 15, 3) := by decide +kernel
theorem dX6_isMarkedFor_8 : decode cX6_isMarkedFor 8 = .ok (.aload_n 0, 1) := by decide +kernel
theorem dX6_isMarkedFor_9 : decode cX6_isMarkedFor 9 = .ok (.getfield 18, 3) := by decide +kernel
theorem dX6_isMarkedFor_12 : decode cX6_isMarkedFor 12 = .ok (.iload_n 1, 1) := by decide +kernel
theorem dX6_isMarkedFor_13 : decode cX6_isMarkedFor 13 = .ok (.if_icmp .ne 7, 3) := by decide +kernel
theorem dX6_isMarkedFor_16 : decode cX6_isMarkedFor 16 = .ok (.iconst 1, 1) := by decide +kernel
theorem dX6_isMarkedFor_17 : decode cX6_isMarkedFor 17 = .ok (.goto 4, 3) := by decide +kernel
theorem dX6_isMarkedFor_20 : decode cX6_isMarkedFor 20 = .ok (.iconst 0, 1) := by decide +kernel
theorem dX6_isMarkedFor_21 : decode cX6_isMarkedFor 21 = .ok (.ireturn, 1) := by decide +kernel
theorem dX6_isFalse_0 : decode cX6_isFalse 0 = .ok (.iload_n 1, 1) := by decide +kernel
theorem dX6_isFalse_1 : decode cX6_isFalse 1 = .ok (.ifCond .eq 10, 3) := by decide +kernel
theorem dX6_isFalse_4 : decode cX6_isFalse 4 = .ok (.aload_n 0, 1) := by decide +kernel
theorem dX6_isFalse_5 : decode cX6_isFalse 5 = .ok (.getfield 21, 3) := by decide +kernel
theorem dX6_isFalse_8 : decode cX6_isFalse 8 = .ok (.goto 16, 3) := by decide +kernel
theorem dX6_isFalse_11 : decode cX6_isFalse 11 = .ok (.aload_n 0, 1) := by decide +kernel
theorem dX6_isFalse_12 : decode cX6_isFalse 12 = .ok (.getfield 9, 3) := by decide +kernel
theorem dX6_isFalse_15 : decode cX6_isFalse 15 = .ok (.iconst 2, 1) := by decide +kernel
theorem dX6_isFalse_16 : decode cX6_isFalse 16 = .ok (.if_icmp .ne 7, 3) := by decide +kernel
theorem dX6_isFalse_19 : decode cX6_isFalse 19 = .ok (.iconst 1, 1) := by decide +kernel
theorem dX6_isFalse_20 : decode cX6_isFalse 20 = .ok (.goto 4, 3) := by decide +kernel
theorem dX6_isFalse_23 : decode cX6_isFalse 23 = .ok (.iconst 0, 1) := by decide +kernel
theorem dX6_isFalse_24 : decode cX6_isFalse 24 = .ok (.ireturn, 1) := by decide +kernel
theorem dX7_init_0 : decode cX7_init 0 = .ok (.aload_n 0, 1) := by decide +kernel
theorem dX7_init_1 : decode cX7_init 1 = .ok (.invokespecial 3, 3) := by decide +kernel
theorem dX7_init_4 : decode cX7_init 4 = .ok (.aload_n 0, 1) := by decide +kernel
theorem dX7_init_5 : decode cX7_init 5 = .ok (.bipush 12, 2) := by decide +kernel
theorem dX7_init_7 : decode cX7_init 7 = .ok (.anewarray 9, 3) := by decide +kernel
theorem dX7_init_10 : decode cX7_init 10 = .ok (.putfield 11, 3) := by decide +kernel
theorem dX7_init_13 : decode cX7_init 13 = .ok (.aload_n 0, 1) := by decide +kernel
theorem dX7_init_14 : decode cX7_init 14 = .ok (.bipush 24, 2) := by decide +kernel
theorem dX7_init_16 : decode cX7_init 16 = .ok (.anewarray 15, 3) := by decide +kernel
theorem dX7_init_19 : decode cX7_init 19 = .ok (.putfield 17, 3) := by decide +kernel
theorem dX7_init_22 : decode cX7_init 22 = .ok (.aload_n 0, 1) := by decide +kernel
theorem dX7_init_23 : decode cX7_init 23 = .ok (.bipush 66, 2) := by decide +kernel
theorem dX7_init_25 : decode cX7_init 25 = .ok (.anewarray 21, 3) := by decide +kernel
theorem dX7_init_28 : decode cX7_init 28 = .ok (.putfield 23, 3) := by decide +kernel
theorem dX7_init_31 : decode cX7_init 31 = .ok (.aload_n 0, 1) := by decide +kernel
theorem dX7_init_32 : decode cX7_init 32 = .ok (.new 27, 3) := by decide +kernel
theorem dX7_init_35 : decode cX7_init 35 = .ok (.dup, 1) := by decide +kernel
theorem dX7_init_36 : decode cX7_init 36 = .ok (.invokespecial 29, 3) := by decide +kernel
theorem dX7_init_39 : decode cX7_init 39 = .ok (.putfield 30, 3) := by decide +kernel
theorem dX7_init_42 : decode cX7_init 42 = .ok (.aload_n 0, 1) := by decide +kernel
theorem dX7_init_43 : decode cX7_init 43 = .ok (.new 34, 3) := by decide +kernel
theorem dX7_init_46 : decode cX7_init 46 = .ok (.dup, 1) := by decide +kernel
theorem dX7_init_47 : decode cX7_init 47 = .ok (.invokespecial 36, 3) := by decide +kernel
theorem dX7_init_50 : decode cX7_init 50 = .ok (.putfield 37, 3) := by decide +kernel
theorem dX7_init_53 : decode cX7_init 53 = .ok (.aload_n 0, 1) := by decide +kernel
theorem dX7_init_54 : decode cX7_init 54 = .ok (.new 41, 3) := by decide +kernel
theorem dX7_init_57 : decode cX7_init 57 = .ok (.dup, 1) := by decide +kernel
theorem dX7_init_58 : decode cX7_init 58 = .ok (.invokespecial 43, 3) := by decide +kernel
theorem dX7_init_61 : decode cX7_init 61 = .ok (.putfield 44, 3) := by decide +kernel
theorem dX7_init_64 : decode cX7_init 64 = .ok (.aload_n 0, 1) := by decide +kernel
theorem dX7_init_65 : decode cX7_init 65 = .ok (.iload_n 1, 1) := by decide +kernel
theorem dX7_init_66 : decode cX7_init 66 = .ok (.ifCond .eq 7, 3) := by decide +kernel
theorem dX7_init_69 : decode cX7_init 69 = .ok (.iconst 1, 1) := by decide +kernel
theorem dX7_init_70 : decode cX7_init 70 = .ok (.goto 4, 3) := by decide +kernel
theorem dX7_init_73 : decode cX7_init 73 = .ok (.iconst 0, 1) := by decide +kernel
theorem dX7_init_74 : decode cX7_init 74 = .ok (.putfield 48, 3) := by decide +kernel
theorem dX7_init_77 : decode cX7_init 77 = .ok (.return_, 1) := by decide +kernel
theorem dX7_fencer_0 : decode cX7_fencer 0 = .ok (.aload_n 0, 1) := by decide +kernel
theorem dX7_fencer_1 : decode cX7_fencer 1 = .ok (.getfield 52, 3) := by decide +kernel
theorem dX7_fencer_4 : decode cX7_fencer 4 = .ok (.bipush 12, 2) := by decide +kernel
theorem dX7_fencer_6 : decode cX7_fencer 6 = .ok (.if_icmp .ge 10, 3) := by decide +kernel
theorem dX7_fencer_9 : decode cX7_fencer 9 = .ok (.aload_n 0, 1) := by decide +kernel
theorem dX7_fencer_10 : decode cX7_fencer 10 = .ok (.invokevirtual 56, 3) := by decide +kernel
theorem dX7_fencer_13 : decode cX7_fencer 13 = .ok (.ifCond .eq 13, 3) := by decide +kernel
theorem dX7_fencer_16 : decode cX7_fencer 16 = .ok (.new 60, 3) := by decide +kernel
theorem dX7_fencer_19 : decode cX7_fencer 19 = .ok (.dup, 1) := by decide +kernel
theorem dX7_fencer_20 : decode cX7_fencer 20 = .ok (.ldc 62, 2) := by decide +kernel
theorem dX7_fencer_22 : decode cX7_fencer 22 = .ok (.invokespecial 64, 3) := by decide +kernel
theorem dX7_fencer_25 : decode cX7_fencer 25 = .ok (.athrow, 1) := by decide +kernel
theorem dX7_fencer_26 : decode cX7_fencer 26 = .ok (.aload_n 0, 1) := by decide +kernel
theorem dX7_fencer_27 : decode cX7_fencer 27 = .ok (.getfield 52, 3) := by decide +kernel
theorem dX7_fencer_30 : decode cX7_fencer 30 = .ok (.istore_n 1, 1) := by decide +kernel
theorem dX7_fencer_31 : decode cX7_fencer 31 = .ok (.aload_n 0, 1) := by decide +kernel
end
section
theorem dX7_fencer_32 : decode cX7_fencer 32 = .ok (.getfield 11, 3) := by decide +kernel
theorem dX7_fencer_35 : decode cX7_fencer 35 = .ok (.iload_n 1, 1) := by decide +kernel
theorem dX7_fencer_36 : decode cX7_fencer 36 = .ok (.new 9, 3) := by decide +kernel
theorem dX7_fencer_39 : decode cX7_fencer 39 = .ok (.dup, 1) := by decide +kernel
theorem dX7_fencer_40 : decode cX7_fencer 40 = .ok (.iload_n 1, 1) := by decide +kernel
theorem dX7_fencer_41 : decode cX7_fencer 41 = .ok (.invokespecial 67, 3) := by decide +kernel
theorem dX7_fencer_44 : decode cX7_fencer 44 = .ok (.aastore, 1) := by decide +kernel
theorem dX7_fencer_45 : decode cX7_fencer 45 = .ok (.aload_n 0, 1) := by decide +kernel
theorem dX7_fencer_46 : decode cX7_fencer 46 = .ok (.dup, 1) := by decide +kernel
theorem dX7_fencer_47 : decode cX7_fencer 47 = .ok (.getfield 52, 3) := by decide +kernel
theorem dX7_fencer_50 : decode cX7_fencer 50 = .ok (.iconst 1, 1) := by decide +kernel
theorem dX7_fencer_51 : decode cX7_fencer 51 = .ok (.iadd, 1) := by decide +kernel
theorem dX7_fencer_52 : decode cX7_fencer 52 = .ok (.putfield 52, 3) := by decide +kernel
theorem dX7_fencer_55 : decode cX7_fencer 55 = .ok (.iload_n 1, 1) := by decide +kernel
theorem dX7_fencer_56 : decode cX7_fencer 56 = .ok (.ireturn, 1) := by decide +kernel
theorem dX7_weapon_0 : decode cX7_weapon 0 = .ok (.aload_n 0, 1) := by decide +kernel
theorem dX7_weapon_1 : decode cX7_weapon 1 = .ok (.iload_n 1, 1) := by decide +kernel
theorem dX7_weapon_2 : decode cX7_weapon 2 = .ok (.invokevirtual 70, 3) := by decide +kernel
theorem dX7_weapon_5 : decode cX7_weapon 5 = .ok (.ifnonnull 13, 3) := by decide +kernel
theorem dX7_weapon_8 : decode cX7_weapon 8 = .ok (.new 74, 3) := by decide +kernel
theorem dX7_weapon_11 : decode cX7_weapon 11 = .ok (.dup, 1) := by decide +kernel
theorem dX7_weapon_12 : decode cX7_weapon 12 = .ok (.ldc 76, 2) := by decide +kernel
theorem dX7_weapon_14 : decode cX7_weapon 14 = .ok (.invokespecial 78, 3) := by decide +kernel
theorem dX7_weapon_17 : decode cX7_weapon 17 = .ok (.athrow, 1) := by decide +kernel
theorem dX7_weapon_18 : decode cX7_weapon 18 = .ok (.aload_n 0, 1) := by decide +kernel
theorem dX7_weapon_19 : decode cX7_weapon 19 = .ok (.getfield 79, 3) := by decide +kernel
theorem dX7_weapon_22 : decode cX7_weapon 22 = .ok (.bipush 24, 2) := by decide +kernel
theorem dX7_weapon_24 : decode cX7_weapon 24 = .ok (.if_icmp .lt 13, 3) := by decide +kernel
theorem dX7_weapon_27 : decode cX7_weapon 27 = .ok (.new 60, 3) := by decide +kernel
theorem dX7_weapon_30 : decode cX7_weapon 30 = .ok (.dup, 1) := by decide +kernel
theorem dX7_weapon_31 : decode cX7_weapon 31 = .ok (.ldc 82, 2) := by decide +kernel
theorem dX7_weapon_33 : decode cX7_weapon 33 = .ok (.invokespecial 64, 3) := by decide +kernel
theorem dX7_weapon_36 : decode cX7_weapon 36 = .ok (.athrow, 1) := by decide +kernel
theorem dX7_weapon_37 : decode cX7_weapon 37 = .ok (.aload_n 0, 1) := by decide +kernel
theorem dX7_weapon_38 : decode cX7_weapon 38 = .ok (.getfield 79, 3) := by decide +kernel
theorem dX7_weapon_41 : decode cX7_weapon 41 = .ok (.istore_n 2, 1) := by decide +kernel
theorem dX7_weapon_42 : decode cX7_weapon 42 = .ok (.aload_n 0, 1) := by decide +kernel
theorem dX7_weapon_43 : decode cX7_weapon 43 = .ok (.getfield 17, 3) := by decide +kernel
theorem dX7_weapon_46 : decode cX7_weapon 46 = .ok (.iload_n 2, 1) := by decide +kernel
theorem dX7_weapon_47 : decode cX7_weapon 47 = .ok (.new 15, 3) := by decide +kernel
theorem dX7_weapon_50 : decode cX7_weapon 50 = .ok (.dup, 1) := by decide +kernel
theorem dX7_weapon_51 : decode cX7_weapon 51 = .ok (.iload_n 2, 1) := by decide +kernel
theorem dX7_weapon_52 : decode cX7_weapon 52 = .ok (.iload_n 1, 1) := by decide +kernel
theorem dX7_weapon_53 : decode cX7_weapon 53 = .ok (.invokespecial 84, 3) := by decide +kernel
theorem dX7_weapon_56 : decode cX7_weapon 56 = .ok (.aastore, 1) := by decide +kernel
theorem dX7_weapon_57 : decode cX7_weapon 57 = .ok (.aload_n 0, 1) := by decide +kernel
theorem dX7_weapon_58 : decode cX7_weapon 58 = .ok (.dup, 1) := by decide +kernel
theorem dX7_weapon_59 : decode cX7_weapon 59 = .ok (.getfield 79, 3) := by decide +kernel
theorem dX7_weapon_62 : decode cX7_weapon 62 = .ok (.iconst 1, 1) := by decide +kernel
theorem dX7_weapon_63 : decode cX7_weapon 63 = .ok (.iadd, 1) := by decide +kernel
theorem dX7_weapon_64 : decode cX7_weapon 64 = .ok (.putfield 79, 3) := by decide +kernel
theorem dX7_weapon_67 : decode cX7_weapon 67 = .ok (.iload_n 2, 1) := by decide +kernel
theorem dX7_weapon_68 : decode cX7_weapon 68 = .ok (.ireturn, 1) := by decide +kernel
theorem dX7_test_0 : decode cX7_test 0 = .ok (.aload_n 0, 1) := by decide +kernel
theorem dX7_test_1 : decode cX7_test 1 = .ok (.iload_n 1, 1) := by decide +kernel
theorem dX7_test_2 : decode cX7_test 2 = .ok (.invokevirtual 87, 3) := by decide +kernel
theorem dX7_test_5 : decode cX7_test 5 = .ok (.astore 4, 2) := by decide +kernel
theorem dX7_test_7 : decode cX7_test 7 = .ok (.aload 4, 2) := by decide +kernel
theorem dX7_test_9 : decode cX7_test 9 = .ok (.ifnonnull 13, 3) := by decide +kernel
theorem dX7_test_12 : decode cX7_test 12 = .ok (.new 74, 3) := by decide +kernel
theorem dX7_test_15 : decode cX7_test 15 = .ok (.dup, 1) := by decide +kernel
theorem dX7_test_16 : decode cX7_test 16 = .ok (.ldc 91, 2) := by decide +kernel
theorem dX7_test_18 : decode cX7_test 18 = .ok (.invokespecial 78, 3) := by decide +kernel
theorem dX7_test_21 : decode cX7_test 21 = .ok (.athrow, 1) := by decide +kernel
theorem dX7_test_22 : decode cX7_test 22 = .ok (.iload_n 2, 1) := by decide +kernel
theorem dX7_test_23 : decode cX7_test 23 = .ok (.ifCond .lt 20, 3) := by decide +kernel
theorem dX7_test_26 : decode cX7_test 26 = .ok (.iload_n 2, 1) := by decide +kernel
theorem dX7_test_27 : decode cX7_test 27 = .ok (.sipush 2000, 3) := by decide +kernel
theorem dX7_test_30 : decode cX7_test 30 = .ok (.if_icmp .gt 13, 3) := by decide +kernel
theorem dX7_test_33 : decode cX7_test 33 = .ok (.iload_n 3, 1) := by decide +kernel
theorem dX7_test_34 : decode cX7_test 34 = .ok (.ifCond .lt 9, 3) := by decide +kernel
theorem dX7_test_37 : decode cX7_test 37 = .ok (.iload_n 3, 1) := by decide +kernel
theorem dX7_test_38 : decode cX7_test 38 = .ok (.bipush 100, 2) := by decide +kernel
theorem dX7_test_40 : decode cX7_test 40 = .ok (.if_icmp .le 13, 3) := by decide +kernel
theorem dX7_test_43 : decode cX7_test 43 = .ok (.new 93, 3) := by decide +kernel
theorem dX7_test_46 : decode cX7_test 46 = .ok (.dup, 1) := by decide +kernel
theorem dX7_test_47 : decode cX7_test 47 = .ok (.ldc 95, 2) := by decide +kernel
theorem dX7_test_49 : decode cX7_test 49 = .ok (.invokespecial 97, 3) := by decide +kernel
theorem dX7_test_52 : decode cX7_test 52 = .ok (.athrow, 1) := by decide +kernel
theorem dX7_test_53 : decode cX7_test 53 = .ok (.aload 4, 2) := by decide +kernel
theorem dX7_test_55 : decode cX7_test 55 = .ok (.getfield 98, 3) := by decide +kernel
theorem dX7_test_58 : decode cX7_test 58 = .ok (.iconst 2, 1) := by decide +kernel
theorem dX7_test_59 : decode cX7_test 59 = .ok (.if_icmp .eq 13, 3) := by decide +kernel
theorem dX7_test_62 : decode cX7_test 62 = .ok (.aload_n 0, 1) := by decide +kernel
theorem dX7_test_63 : decode cX7_test 63 = .ok (.getfield 30, 3) := by decide +kernel
theorem dX7_test_66 : decode cX7_test 66 = .ok (.getfield 101, 3) := by decide +kernel
theorem dX7_test_69 : decode cX7_test 69 = .ok (.ifnull 13, 3) := by decide +kernel
theorem dX7_test_72 : decode cX7_test 72 = .ok (.new 60, 3) := by decide +kernel
theorem dX7_test_75 : decode cX7_test 75 = .ok (.dup, 1) := by decide +kernel
theorem dX7_test_76 : decode cX7_test 76 = .ok (.ldc 105, 2) := by decide +kernel
theorem dX7_test_78 : decode cX7_test 78 = .ok (.invokespecial 64, 3) := by decide +kernel
theorem dX7_test_81 : decode cX7_test 81 = .ok (.athrow, 1) := by decide +kernel
theorem dX7_test_82 : decode cX7_test 82 = .ok (.iload_n 2, 1) := by decide +kernel
theorem dX7_test_83 : decode cX7_test 83 = .ok (.sipush 500, 3) := by decide +kernel
theorem dX7_test_86 : decode cX7_test 86 = .ok (.if_icmp .lt 20, 3) := by decide +kernel
theorem dX7_test_89 : decode cX7_test 89 = .ok (.iload_n 2, 1) := by decide +kernel
theorem dX7_test_90 : decode cX7_test 90 = .ok (.sipush 770, 3) := by decide +kernel
theorem dX7_test_93 : decode cX7_test 93 = .ok (.if_icmp .gt 13, 3) := by decide +kernel
theorem dX7_test_96 : decode cX7_test 96 = .ok (.iload_n 3, 1) := by decide +kernel
theorem dX7_test_97 : decode cX7_test 97 = .ok (.bipush 15, 2) := by decide +kernel
theorem dX7_test_99 : decode cX7_test 99 = .ok (.if_icmp .gt 7, 3) := by decide +kernel
theorem dX7_test_102 : decode cX7_test 102 = .ok (.iconst 1, 1) := by decide +kernel
theorem dX7_test_103 : decode cX7_test 103 = .ok (.goto 4, 3) := by decide +kernel
theorem dX7_test_106 : decode cX7_test 106 = .ok (.iconst 0, 1) := by decide +kernel
theorem dX7_test_107 : decode cX7_test 107 = .ok (.istore 5, 2) := by decide +kernel
theorem dX7_test_109 : decode cX7_test 109 = .ok (.iload 5, 2) := by decide +kernel
theorem dX7_test_111 : decode cX7_test 111 = .ok (.ifCond .eq 12, 3) := by decide +kernel
theorem dX7_test_114 : decode cX7_test 114 = .ok (.aload 4, 2) := by decide +kernel
theorem dX7_test_116 : decode cX7_test 116 = .ok (.iconst 1, 1) := by decide +kernel
theorem dX7_test_117 : decode cX7_test 117 = .ok (.putfield 98, 3) := by decide +kernel
theorem dX7_test_120 : decode cX7_test 120 = .ok (.goto 9, 3) := by decide +kernel
theorem dX7_test_123 : decode cX7_test 123 = .ok (.aload_n 0, 1) := by decide +kernel
theorem dX7_test_124 : decode cX7_test 124 = .ok (.aload 4, 2) := by decide +kernel
theorem dX7_test_126 : decode cX7_test 126 = .ok (.invokevirtual 107, 3) := by decide +kernel
theorem dX7_test_129 : decode cX7_test 129 = .ok (.iload 5, 2) := by decide +kernel
theorem dX7_test_131 : decode cX7_test 131 = .ok (.ireturn, 1) := by decide +kernel
theorem dX7_mark_0 : decode cX7_mark 0 = .ok (.aload_n 0, 1) := by decide +kernel
theorem dX7_mark_1 : decode cX7_mark 1 = .ok (.iload_n 1, 1) := by decide +kernel
theorem dX7_mark_2 : decode cX7_mark 2 = .ok (.invokevirtual 87, 3) := by decide +kernel
theorem dX7_mark_5 : decode cX7_mark 5 = .ok (.astore_n 2, 1) := by decide +kernel
theorem dX7_mark_6 : decode cX7_mark 6 = .ok (.aload_n 2, 1) := by decide +kernel
theorem dX7_mark_7 : decode cX7_mark 7 = .ok (.ifnonnull 13, 3) := by decide +kernel
theorem dX7_mark_10 : decode cX7_mark 10 = .ok (.new 74, 3) := by decide +kernel
theorem dX7_mark_13 : decode cX7_mark 13 = .ok (.dup, 1) := by decide +kernel
theorem dX7_mark_14 : decode cX7_mark 14 = .ok (.ldc 91, 2) := by decide +kernel
theorem dX7_mark_16 : decode cX7_mark 16 = .ok (.invokespecial 78, 3) := by decide +kernel
theorem dX7_mark_19 : decode cX7_mark 19 = .ok (.athrow, 1) := by decide +kernel
theorem dX7_mark_20 : decode cX7_mark 20 = .ok (.aload_n 2, 1) := by decide +kernel
theorem dX7_mark_21 : decode cX7_mark 21 = .ok (.getfield 98, 3) := by decide +kernel
theorem dX7_mark_24 : decode cX7_mark 24 = .ok (.ireturn, 1) := by decide +kernel
theorem dX7_owner_0 : decode cX7_owner 0 = .ok (.aload_n 0, 1) := by decide +kernel
theorem dX7_owner_1 : decode cX7_owner 1 = .ok (.iload_n 1, 1) := by decide +kernel
theorem dX7_owner_2 : decode cX7_owner 2 = .ok (.invokevirtual 87, 3) := by decide +kernel
theorem dX7_owner_5 : decode cX7_owner 5 = .ok (.astore_n 2, 1) := by decide +kernel
theorem dX7_owner_6 : decode cX7_owner 6 = .ok (.aload_n 2, 1) := by decide +kernel
theorem dX7_owner_7 : decode cX7_owner 7 = .ok (.ifnonnull 13, 3) := by decide +kernel
theorem dX7_owner_10 : decode cX7_owner 10 = .ok (.new 74, 3) := by decide +kernel
theorem dX7_owner_13 : decode cX7_owner 13 = .ok (.dup, 1) := by decide +kernel
theorem dX7_owner_14 : decode cX7_owner 14 = .ok (.ldc 91, 2) := by decide +kernel
theorem dX7_owner_16 : decode cX7_owner 16 = .ok (.invokespecial 78, 3) := by decide +kernel
theorem dX7_owner_19 : decode cX7_owner 19 = .ok (.athrow, 1) := by decide +kernel
theorem dX7_owner_20 : decode cX7_owner 20 = .ok (.aload_n 2, 1) := by decide +kernel
theorem dX7_owner_21 : decode cX7_owner 21 = .ok (.getfield 111, 3) := by decide +kernel
theorem dX7_owner_24 : decode cX7_owner 24 = .ok (.ireturn, 1) := by decide +kernel
theorem dX7_begin_0 : decode cX7_begin 0 = .ok (.aload_n 0, 1) := by decide +kernel
theorem dX7_begin_1 : decode cX7_begin 1 = .ok (.iload_n 1, 1) := by decide +kernel
theorem dX7_begin_2 : decode cX7_begin 2 = .ok (.invokevirtual 114, 3) := by decide +kernel
theorem dX7_begin_5 : decode cX7_begin 5 = .ok (.astore 4, 2) := by decide +kernel
theorem dX7_begin_7 : decode cX7_begin 7 = .ok (.aload_n 0, 1) := by decide +kernel
theorem dX7_begin_8 : decode cX7_begin 8 = .ok (.iload_n 2, 1) := by decide +kernel
theorem dX7_begin_9 : decode cX7_begin 9 = .ok (.invokevirtual 87, 3) := by decide +kernel
theorem dX7_begin_12 : decode cX7_begin 12 = .ok (.astore 5, 2) := by decide +kernel
theorem dX7_begin_14 : decode cX7_begin 14 = .ok (.aload_n 0, 1) := by decide +kernel
theorem dX7_begin_15 : decode cX7_begin 15 = .ok (.iload_n 3, 1) := by decide +kernel
theorem dX7_begin_16 : decode cX7_begin 16 = .ok (.invokevirtual 87, 3) := by decide +kernel
theorem dX7_begin_19 : decode cX7_begin 19 = .ok (.astore 6, 2) := by decide +kernel
theorem dX7_begin_21 : decode cX7_begin 21 = .ok (.aload 4, 2) := by decide +kernel
theorem dX7_begin_23 : decode cX7_begin 23 = .ok (.ifnull 13, 3) := by decide +kernel
theorem dX7_begin_26 : decode cX7_begin 26 = .ok (.aload 5, 2) := by decide +kernel
theorem dX7_begin_28 : decode cX7_begin 28 = .ok (.ifnull 8, 3) := by decide +kernel
theorem dX7_begin_31 : decode cX7_begin 31 = .ok (.aload 6, 2) := by decide +kernel
theorem dX7_begin_33 : decode cX7_begin 33 = .ok (.ifnonnull 13, 3) := by decide +kernel
theorem dX7_begin_36 : decode cX7_begin 36 = .ok (.new 74, 3) := by decide +kernel
theorem dX7_begin_39 : decode cX7_begin 39 = .ok (.dup, 1) := by decide +kernel
theorem dX7_begin_40 : decode cX7_begin 40 = .ok (.ldc 118, 2) := by decide +kernel
theorem dX7_begin_42 : decode cX7_begin 42 = .ok (.invokespecial 78, 3) := by decide +kernel
theorem dX7_begin_45 : decode cX7_begin 45 = .ok (.athrow, 1) := by decide +kernel
theorem dX7_begin_46 : decode cX7_begin 46 = .ok (.aload_n 0, 1) := by decide +kernel
theorem dX7_begin_47 : decode cX7_begin 47 = .ok (.getfield 30, 3) := by decide +kernel
theorem dX7_begin_50 : decode cX7_begin 50 = .ok (.getfield 101, 3) := by decide +kernel
theorem dX7_begin_53 : decode cX7_begin 53 = .ok (.ifnonnull 11, 3) := by decide +kernel
theorem dX7_begin_56 : decode cX7_begin 56 = .ok (.aload 4, 2) := by decide +kernel
theorem dX7_begin_58 : decode cX7_begin 58 = .ok (.invokevirtual 120, 3) := by decide +kernel
theorem dX7_begin_61 : decode cX7_begin 61 = .ok (.ifCond .ne 13, 3) := by decide +kernel
theorem dX7_begin_64 : decode cX7_begin 64 = .ok (.new 60, 3) := by decide +kernel
theorem dX7_begin_67 : decode cX7_begin 67 = .ok (.dup, 1) := by decide +kernel
theorem dX7_begin_68 : decode cX7_begin 68 = .ok (.ldc 123, 2) := by decide +kernel
theorem dX7_begin_70 : decode cX7_begin 70 = .ok (.invokespecial 64, 3) := by decide +kernel
theorem dX7_begin_73 : decode cX7_begin 73 = .ok (.athrow, 1) := by decide +kernel
theorem dX7_begin_74 : decode cX7_begin 74 = .ok (.aload 5, 2) := by decide +kernel
theorem dX7_begin_76 : decode cX7_begin 76 = .ok (.aload 4, 2) := by decide +kernel
theorem dX7_begin_78 : decode cX7_begin 78 = .ok (.getfield 125, 3) := by decide +kernel
theorem dX7_begin_81 : decode cX7_begin 81 = .ok (.invokevirtual 128, 3) := by decide +kernel
theorem dX7_begin_84 : decode cX7_begin 84 = .ok (.ifCond .eq 16, 3) := by decide +kernel
theorem dX7_begin_87 : decode cX7_begin 87 = .ok (.aload 6, 2) := by decide +kernel
theorem dX7_begin_89 : decode cX7_begin 89 = .ok (.aload 4, 2) := by decide +kernel
theorem dX7_begin_91 : decode cX7_begin 91 = .ok (.getfield 132, 3) := by decide +kernel
theorem dX7_begin_94 : decode cX7_begin 94 = .ok (.invokevirtual 128, 3) := by decide +kernel
theorem dX7_begin_97 : decode cX7_begin 97 = .ok (.ifCond .ne 13, 3) := by decide +kernel
theorem dX7_begin_100 : decode cX7_begin 100 = .ok (.new 60, 3) := by decide +kernel
theorem dX7_begin_103 : decode cX7_begin 103 = .ok (.dup, 1) := by decide +kernel
theorem dX7_begin_104 : decode cX7_begin 104 = .ok (.ldc 135, 2) := by decide +kernel
theorem dX7_begin_106 : decode cX7_begin 106 = .ok (.invokespecial 64, 3) := by decide +kernel
theorem dX7_begin_109 : decode cX7_begin 109 = .ok (.athrow, 1) := by decide +kernel
theorem dX7_begin_110 : decode cX7_begin 110 = .ok (.aload_n 0, 1) := by decide +kernel
theorem dX7_begin_111 : decode cX7_begin 111 = .ok (.getfield 30, 3) := by decide +kernel
theorem dX7_begin_114 : decode cX7_begin 114 = .ok (.iload_n 1, 1) := by decide +kernel
theorem dX7_begin_115 : decode cX7_begin 115 = .ok (.aload 4, 2) := by decide +kernel
theorem dX7_begin_117 : decode cX7_begin 117 = .ok (.aload 5, 2) := by decide +kernel
theorem dX7_begin_119 : decode cX7_begin 119 = .ok (.aload 6, 2) := by decide +kernel
theorem dX7_begin_121 : decode cX7_begin 121 = .ok (.invokevirtual 137, 3) := by decide +kernel
theorem dX7_begin_124 : decode cX7_begin 124 = .ok (.aload 4, 2) := by decide +kernel
theorem dX7_begin_126 : decode cX7_begin 126 = .ok (.getfield 141, 3) := by decide +kernel
theorem dX7_begin_129 : decode cX7_begin 129 = .ok (.ireturn, 1) := by decide +kernel
theorem dX7_change_0 : decode cX7_change 0 = .ok (.aload_n 0, 1) := by decide +kernel
theorem dX7_change_1 : decode cX7_change 1 = .ok (.iload_n 2, 1) := by decide +kernel
theorem dX7_change_2 : decode cX7_change 2 = .ok (.invokevirtual 87, 3) := by decide +kernel
theorem dX7_change_5 : decode cX7_change 5 = .ok (.astore_n 3, 1) := by decide +kernel
theorem dX7_change_6 : decode cX7_change 6 = .ok (.iload_n 1, 1) := by decide +kernel
theorem dX7_change_7 : decode cX7_change 7 = .ok (.invokestatic 144, 3) := by decide +kernel
theorem dX7_change_10 : decode cX7_change 10 = .ok (.ifCond .eq 7, 3) := by decide +kernel
theorem dX7_change_13 : decode cX7_change 13 = .ok (.aload_n 3, 1) := by decide +kernel
theorem dX7_change_14 : decode cX7_change 14 = .ok (.ifnonnull 13, 3) := by decide +kernel
theorem dX7_change_17 : decode cX7_change 17 = .ok (.new 74, 3) := by decide +kernel
theorem dX7_change_20 : decode cX7_change 20 = .ok (.dup, 1) := by decide +kernel
theorem dX7_change_21 : decode cX7_change 21 = .ok (.ldc 147, 2) := by decide +kernel
theorem dX7_change_23 : decode cX7_change 23 = .ok (.invokespecial 78, 3) := by decide +kernel
theorem dX7_change_26 : decode cX7_change 26 = .ok (.athrow, 1) := by decide +kernel
theorem dX7_change_27 : decode cX7_change 27 = .ok (.aload_n 0, 1) := by decide +kernel
theorem dX7_change_28 : decode cX7_change 28 = .ok (.getfield 30, 3) := by decide +kernel
theorem dX7_change_31 : decode cX7_change 31 = .ok (.getfield 149, 3) := by decide +kernel
theorem dX7_change_34 : decode cX7_change 34 = .ok (.astore 4, 2) := by decide +kernel
theorem dX7_change_36 : decode cX7_change 36 = .ok (.aload 4, 2) := by decide +kernel
theorem dX7_change_38 : decode cX7_change 38 = .ok (.ifnull 13, 3) := by decide +kernel
theorem dX7_change_41 : decode cX7_change 41 = .ok (.aload_n 0, 1) := by decide +kernel
theorem dX7_change_42 : decode cX7_change 42 = .ok (.getfield 30, 3) := by decide +kernel
theorem dX7_change_45 : decode cX7_change 45 = .ok (.getfield 101, 3) := by decide +kernel
theorem dX7_change_48 : decode cX7_change 48 = .ok (.ifnull 13, 3) := by decide +kernel
theorem dX7_change_51 : decode cX7_change 51 = .ok (.new 60, 3) := by decide +kernel
theorem dX7_change_54 : decode cX7_change 54 = .ok (.dup, 1) := by decide +kernel
theorem dX7_change_55 : decode cX7_change 55 = .ok (.ldc 153, 2) := by decide +kernel
theorem dX7_change_57 : decode cX7_change 57 = .ok (.invokespecial 64, 3) := by decide +kernel
theorem dX7_change_60 : decode cX7_change 60 = .ok (.athrow, 1) := by decide +kernel
theorem dX7_change_61 : decode cX7_change 61 = .ok (.aload_n 3, 1) := by decide +kernel
theorem dX7_change_62 : decode cX7_change 62 = .ok (.aload 4, 2) := by decide +kernel
theorem dX7_change_64 : decode cX7_change 64 = .ok (.iload_n 1, 1) := by decide +kernel
theorem dX7_change_65 : decode cX7_change 65 = .ok (.invokevirtual 155, 3) := by decide +kernel
theorem dX7_change_68 : decode cX7_change 68 = .ok (.invokevirtual 128, 3) := by decide +kernel
theorem dX7_change_71 : decode cX7_change 71 = .ok (.ifCond .ne 13, 3) := by decide +kernel
theorem dX7_change_74 : decode cX7_change 74 = .ok (.new 60, 3) := by decide +kernel
theorem dX7_change_77 : decode cX7_change 77 = .ok (.dup, 1) := by decide +kernel
theorem dX7_change_78 : decode cX7_change 78 = .ok (.ldc 158, 2) := by decide +kernel
theorem dX7_change_80 : decode cX7_change 80 = .ok (.invokespecial 64, 3) := by decide +kernel
theorem dX7_change_83 : decode cX7_change 83 = .ok (.athrow, 1) := by decide +kernel
theorem dX7_change_84 : decode cX7_change 84 = .ok (.aload_n 0, 1) := by decide +kernel
theorem dX7_change_85 : decode cX7_change 85 = .ok (.getfield 30, 3) := by decide +kernel
theorem dX7_change_88 : decode cX7_change 88 = .ok (.iload_n 1, 1) := by decide +kernel
theorem dX7_change_89 : decode cX7_change 89 = .ok (.invokevirtual 160, 3) := by decide +kernel
theorem dX7_change_92 : decode cX7_change 92 = .ok (.istore 5, 2) := by decide +kernel
theorem dX7_change_94 : decode cX7_change 94 = .ok (.aload_n 0, 1) := by decide +kernel
theorem dX7_change_95 : decode cX7_change 95 = .ok (.getfield 30, 3) := by decide +kernel
theorem dX7_change_98 : decode cX7_change 98 = .ok (.iload_n 1, 1) := by decide +kernel
theorem dX7_change_99 : decode cX7_change 99 = .ok (.aload_n 3, 1) := by decide +kernel
theorem dX7_change_100 : decode cX7_change 100 = .ok (.invokevirtual 163, 3) := by decide +kernel
theorem dX7_change_103 : decode cX7_change 103 = .ok (.iload 5, 2) := by decide +kernel
theorem dX7_change_105 : decode cX7_change 105 = .ok (.ireturn, 1) := by decide +kernel
theorem dX7_allez_0 : decode cX7_allez 0 = .ok (.aload_n 0, 1) := by decide +kernel
theorem dX7_allez_1 : decode cX7_allez 1 = .ok (.getfield 30, 3) := by decide +kernel
theorem dX7_allez_4 : decode cX7_allez 4 = .ok (.getfield 149, 3) := by decide +kernel
theorem dX7_allez_7 : decode cX7_allez 7 = .ok (.astore_n 1, 1) := by decide +kernel
theorem dX7_allez_8 : decode cX7_allez 8 = .ok (.aload_n 0, 1) := by decide +kernel
theorem dX7_allez_9 : decode cX7_allez 9 = .ok (.getfield 30, 3) := by decide +kernel
theorem dX7_allez_12 : decode cX7_allez 12 = .ok (.getfield 167, 3) := by decide +kernel
theorem dX7_allez_15 : decode cX7_allez 15 = .ok (.astore_n 2, 1) := by decide +kernel
theorem dX7_allez_16 : decode cX7_allez 16 = .ok (.aload_n 0, 1) := by decide +kernel
theorem dX7_allez_17 : decode cX7_allez 17 = .ok (.getfield 30, 3) := by decide +kernel
theorem dX7_allez_20 : decode cX7_allez 20 = .ok (.getfield 170, 3) := by decide +kernel
theorem dX7_allez_23 : decode cX7_allez 23 = .ok (.astore_n 3, 1) := by decide +kernel
theorem dX7_allez_24 : decode cX7_allez 24 = .ok (.aload_n 1, 1) := by decide +kernel
theorem dX7_allez_25 : decode cX7_allez 25 = .ok (.ifnull 21, 3) := by decide +kernel
theorem dX7_allez_28 : decode cX7_allez 28 = .ok (.aload_n 2, 1) := by decide +kernel
theorem dX7_allez_29 : decode cX7_allez 29 = .ok (.ifnull 17, 3) := by decide +kernel
theorem dX7_allez_32 : decode cX7_allez 32 = .ok (.aload_n 3, 1) := by decide +kernel
theorem dX7_allez_33 : decode cX7_allez 33 = .ok (.ifnull 13, 3) := by decide +kernel
theorem dX7_allez_36 : decode cX7_allez 36 = .ok (.aload_n 0, 1) := by decide +kernel
theorem dX7_allez_37 : decode cX7_allez 37 = .ok (.getfield 30, 3) := by decide +kernel
theorem dX7_allez_40 : decode cX7_allez 40 = .ok (.getfield 101, 3) := by decide +kernel
theorem dX7_allez_43 : decode cX7_allez 43 = .ok (.ifnull 13, 3) := by decide +kernel
theorem dX7_allez_46 : decode cX7_allez 46 = .ok (.new 60, 3) := by decide +kernel
theorem dX7_allez_49 : decode cX7_allez 49 = .ok (.dup, 1) := by decide +kernel
theorem dX7_allez_50 : decode cX7_allez 50 = .ok (.ldc 153, 2) := by decide +kernel
theorem dX7_allez_52 : decode cX7_allez 52 = .ok (.invokespecial 64, 3) := by decide +kernel
theorem dX7_allez_55 : decode cX7_allez 55 = .ok (.athrow, 1) := by decide +kernel
theorem dX7_allez_56 : decode cX7_allez 56 = .ok (.aload_n 1, 1) := by decide +kernel
theorem dX7_allez_57 : decode cX7_allez 57 = .ok (.invokevirtual 120, 3) := by decide +kernel
theorem dX7_allez_60 : decode cX7_allez 60 = .ok (.ifCond .eq 19, 3) := by decide +kernel
theorem dX7_allez_63 : decode cX7_allez 63 = .ok (.aload_n 2, 1) := by decide +kernel
theorem dX7_allez_64 : decode cX7_allez 64 = .ok (.getfield 98, 3) := by decide +kernel
theorem dX7_allez_67 : decode cX7_allez 67 = .ok (.iconst 1, 1) := by decide +kernel
theorem dX7_allez_68 : decode cX7_allez 68 = .ok (.if_icmp .ne 11, 3) := by decide +kernel
theorem dX7_allez_71 : decode cX7_allez 71 = .ok (.aload_n 3, 1) := by decide +kernel
theorem dX7_allez_72 : decode cX7_allez 72 = .ok (.getfield 98, 3) := by decide +kernel
theorem dX7_allez_75 : decode cX7_allez 75 = .ok (.iconst 1, 1) := by decide +kernel
theorem dX7_allez_76 : decode cX7_allez 76 = .ok (.if_icmp .eq 13, 3) := by decide +kernel
theorem dX7_allez_79 : decode cX7_allez 79 = .ok (.new 60, 3) := by decide +kernel
theorem dX7_allez_82 : decode cX7_allez 82 = .ok (.dup, 1) := by decide +kernel
theorem dX7_allez_83 : decode cX7_allez 83 = .ok (.ldc 172, 2) := by decide +kernel
theorem dX7_allez_85 : decode cX7_allez 85 = .ok (.invokespecial 64, 3) := by decide +kernel
theorem dX7_allez_88 : decode cX7_allez 88 = .ok (.athrow, 1) := by decide +kernel
theorem dX7_allez_89 : decode cX7_allez 89 = .ok (.aload_n 0, 1) := by decide +kernel
theorem dX7_allez_90 : decode cX7_allez 90 = .ok (.getfield 30, 3) := by decide +kernel
theorem dX7_allez_93 : decode cX7_allez 93 = .ok (.new 174, 3) := by decide +kernel
theorem dX7_allez_96 : decode cX7_allez 96 = .ok (.dup, 1) := by decide +kernel
theorem dX7_allez_97 : decode cX7_allez 97 = .ok (.aload_n 0, 1) := by decide +kernel
theorem dX7_allez_98 : decode cX7_allez 98 = .ok (.getfield 48, 3) := by decide +kernel
theorem dX7_allez_101 : decode cX7_allez 101 = .ok (.aload_n 2, 1) := by decide +kernel
theorem dX7_allez_102 : decode cX7_allez 102 = .ok (.aload_n 3, 1) := by decide +kernel
theorem dX7_allez_103 : decode cX7_allez 103 = .ok (.invokespecial 176, 3) := by decide +kernel
theorem dX7_allez_106 : decode cX7_allez 106 = .ok (.putfield 101, 3) := by decide +kernel
theorem dX7_allez_109 : decode cX7_allez 109 = .ok (.aload_n 1, 1) := by decide +kernel
theorem dX7_allez_110 : decode cX7_allez 110 = .ok (.getfield 141, 3) := by decide +kernel
theorem dX7_allez_113 : decode cX7_allez 113 = .ok (.ireturn, 1) := by decide +kernel
theorem dX7_contact_0 : decode cX7_contact 0 = .ok (.iload_n 1, 1) := by decide +kernel
theorem dX7_contact_1 : decode cX7_contact 1 = .ok (.invokestatic 144, 3) := by decide +kernel
theorem dX7_contact_4 : decode cX7_contact 4 = .ok (.ifCond .ne 13, 3) := by decide +kernel
theorem dX7_contact_7 : decode cX7_contact 7 = .ok (.new 74, 3) := by decide +kernel
theorem dX7_contact_10 : decode cX7_contact 10 = .ok (.dup, 1) := by decide +kernel
theorem dX7_contact_11 : decode cX7_contact 11 = .ok (.ldc 179, 2) := by decide +kernel
theorem dX7_contact_13 : decode cX7_contact 13 = .ok (.invokespecial 78, 3) := by decide +kernel
theorem dX7_contact_16 : decode cX7_contact 16 = .ok (.athrow, 1) := by decide +kernel
theorem dX7_contact_17 : decode cX7_contact 17 = .ok (.aload_n 0, 1) := by decide +kernel
theorem dX7_contact_18 : decode cX7_contact 18 = .ok (.iload_n 3, 1) := by decide +kernel
theorem dX7_contact_19 : decode cX7_contact 19 = .ok (.invokevirtual 181, 3) := by decide +kernel
theorem dX7_contact_22 : decode cX7_contact 22 = .ok (.ifCond .eq 13, 3) := by decide +kernel
theorem dX7_contact_25 : decode cX7_contact 25 = .ok (.new 93, 3) := by decide +kernel
theorem dX7_contact_28 : decode cX7_contact 28 = .ok (.dup, 1) := by decide +kernel
theorem dX7_contact_29 : decode cX7_contact 29 = .ok (.ldc 184, 2) := by decide +kernel
theorem dX7_contact_31 : decode cX7_contact 31 = .ok (.invokespecial 97, 3) := by decide +kernel
theorem dX7_contact_34 : decode cX7_contact 34 = .ok (.athrow, 1) := by decide +kernel
theorem dX7_contact_35 : decode cX7_contact 35 = .ok (.aload_n 0, 1) := by decide +kernel
theorem dX7_contact_36 : decode cX7_contact 36 = .ok (.getfield 30, 3) := by decide +kernel
theorem dX7_contact_39 : decode cX7_contact 39 = .ok (.getfield 101, 3) := by decide +kernel
theorem dX7_contact_42 : decode cX7_contact 42 = .ok (.astore 4, 2) := by decide +kernel
theorem dX7_contact_44 : decode cX7_contact 44 = .ok (.aload 4, 2) := by decide +kernel
theorem dX7_contact_46 : decode cX7_contact 46 = .ok (.ifnull 11, 3) := by decide +kernel
theorem dX7_contact_49 : decode cX7_contact 49 = .ok (.aload 4, 2) := by decide +kernel
theorem dX7_contact_51 : decode cX7_contact 51 = .ok (.invokevirtual 186, 3) := by decide +kernel
theorem dX7_contact_54 : decode cX7_contact 54 = .ok (.ifCond .eq 13, 3) := by decide +kernel
theorem dX7_contact_57 : decode cX7_contact 57 = .ok (.new 60, 3) := by decide +kernel
theorem dX7_contact_60 : decode cX7_contact 60 = .ok (.dup, 1) := by decide +kernel
theorem dX7_contact_61 : decode cX7_contact 61 = .ok (.ldc 189, 2) := by decide +kernel
theorem dX7_contact_63 : decode cX7_contact 63 = .ok (.invokespecial 64, 3) := by decide +kernel
theorem dX7_contact_66 : decode cX7_contact 66 = .ok (.athrow, 1) := by decide +kernel
theorem dX7_contact_67 : decode cX7_contact 67 = .ok (.aload 4, 2) := by decide +kernel
theorem dX7_contact_69 : decode cX7_contact 69 = .ok (.iload_n 2, 1) := by decide +kernel
theorem dX7_contact_70 : decode cX7_contact 70 = .ok (.ifCond .eq 7, 3) := by decide +kernel
theorem dX7_contact_73 : decode cX7_contact 73 = .ok (.iconst 0, 1) := by decide +kernel
theorem dX7_contact_74 : decode cX7_contact 74 = .ok (.goto 4, 3) := by decide +kernel
theorem dX7_contact_77 : decode cX7_contact 77 = .ok (.iconst 1, 1) := by decide +kernel
theorem dX7_contact_78 : decode cX7_contact 78 = .ok (.iload_n 1, 1) := by decide +kernel
theorem dX7_contact_79 : decode cX7_contact 79 = .ok (.iload_n 3, 1) := by decide +kernel
theorem dX7_contact_80 : decode cX7_contact 80 = .ok (.invokevirtual 191, 3) := by decide +kernel
theorem dX7_contact_83 : decode cX7_contact 83 = .ok (.aload 4, 2) := by decide +kernel
theorem dX7_contact_85 : decode cX7_contact 85 = .ok (.getfield 195, 3) := by decide +kernel
theorem dX7_contact_88 : decode cX7_contact 88 = .ok (.ireturn, 1) := by decide +kernel
theorem dX7_right_0 : decode cX7_right 0 = .ok (.iload_n 1, 1) := by decide +kernel
theorem dX7_right_1 : decode cX7_right 1 = .ok (.invokestatic 198, 3) := by decide +kernel
theorem dX7_right_4 : decode cX7_right 4 = .ok (.ifCond .eq 11, 3) := by decide +kernel
theorem dX7_right_7 : decode cX7_right 7 = .ok (.aload_n 0, 1) := by decide +kernel
theorem dX7_right_8 : decode cX7_right 8 = .ok (.iload_n 2, 1) := by decide +kernel
theorem dX7_right_9 : decode cX7_right 9 = .ok (.invokevirtual 181, 3) := by decide +kernel
theorem dX7_right_12 : decode cX7_right 12 = .ok (.ifCond .eq 13, 3) := by decide +kernel
theorem dX7_right_15 : decode cX7_right 15 = .ok (.new 93, 3) := by decide +kernel
theorem dX7_right_18 : decode cX7_right 18 = .ok (.dup, 1) := by decide +kernel
theorem dX7_right_19 : decode cX7_right 19 = .ok (.ldc 201, 2) := by decide +kernel
theorem dX7_right_21 : decode cX7_right 21 = .ok (.invokespecial 97, 3) := by decide +kernel
theorem dX7_right_24 : decode cX7_right 24 = .ok (.athrow, 1) := by decide +kernel
theorem dX7_right_25 : decode cX7_right 25 = .ok (.aload_n 0, 1) := by decide +kernel
theorem dX7_right_26 : decode cX7_right 26 = .ok (.getfield 30, 3) := by decide +kernel
theorem dX7_right_29 : decode cX7_right 29 = .ok (.getfield 101, 3) := by decide +kernel
theorem dX7_right_32 : decode cX7_right 32 = .ok (.astore_n 3, 1) := by decide +kernel
theorem dX7_right_33 : decode cX7_right 33 = .ok (.aload_n 3, 1) := by decide +kernel
theorem dX7_right_34 : decode cX7_right 34 = .ok (.ifnull 10, 3) := by decide +kernel
theorem dX7_right_37 : decode cX7_right 37 = .ok (.aload_n 3, 1) := by decide +kernel
theorem dX7_right_38 : decode cX7_right 38 = .ok (.invokevirtual 186, 3) := by decide +kernel
theorem dX7_right_41 : decode cX7_right 41 = .ok (.ifCond .eq 13, 3) := by decide +kernel
theorem dX7_right_44 : decode cX7_right 44 = .ok (.new 60, 3) := by decide +kernel
theorem dX7_right_47 : decode cX7_right 47 = .ok (.dup, 1) := by decide +kernel
theorem dX7_right_48 : decode cX7_right 48 = .ok (.ldc 189, 2) := by decide +kernel
theorem dX7_right_50 : decode cX7_right 50 = .ok (.invokespecial 64, 3) := by decide +kernel
theorem dX7_right_53 : decode cX7_right 53 = .ok (.athrow, 1) := by decide +kernel
theorem dX7_right_54 : decode cX7_right 54 = .ok (.aload_n 3, 1) := by decide +kernel
theorem dX7_right_55 : decode cX7_right 55 = .ok (.iconst 2, 1) := by decide +kernel
theorem dX7_right_56 : decode cX7_right 56 = .ok (.iload_n 1, 1) := by decide +kernel
theorem dX7_right_57 : decode cX7_right 57 = .ok (.iload_n 2, 1) := by decide +kernel
theorem dX7_right_58 : decode cX7_right 58 = .ok (.invokevirtual 191, 3) := by decide +kernel
theorem dX7_right_61 : decode cX7_right 61 = .ok (.aload_n 3, 1) := by decide +kernel
theorem dX7_right_62 : decode cX7_right 62 = .ok (.getfield 195, 3) := by decide +kernel
theorem dX7_right_65 : decode cX7_right 65 = .ok (.ireturn, 1) := by decide +kernel
theorem dX7_halt_0 : decode cX7_halt 0 = .ok (.aload_n 0, 1) := by decide +kernel
theorem dX7_halt_1 : decode cX7_halt 1 = .ok (.getfield 30, 3) := by decide +kernel
theorem dX7_halt_4 : decode cX7_halt 4 = .ok (.getfield 149, 3) := by decide +kernel
theorem dX7_halt_7 : decode cX7_halt 7 = .ok (.astore_n 1, 1) := by decide +kernel
theorem dX7_halt_8 : decode cX7_halt 8 = .ok (.aload_n 0, 1) := by decide +kernel
theorem dX7_halt_9 : decode cX7_halt 9 = .ok (.getfield 30, 3) := by decide +kernel
theorem dX7_halt_12 : decode cX7_halt 12 = .ok (.getfield 101, 3) := by decide +kernel
theorem dX7_halt_15 : decode cX7_halt 15 = .ok (.astore_n 2, 1) := by decide +kernel
theorem dX7_halt_16 : decode cX7_halt 16 = .ok (.aload_n 1, 1) := by decide +kernel
theorem dX7_halt_17 : decode cX7_halt 17 = .ok (.ifnull 7, 3) := by decide +kernel
theorem dX7_halt_20 : decode cX7_halt 20 = .ok (.aload_n 2, 1) := by decide +kernel
theorem dX7_halt_21 : decode cX7_halt 21 = .ok (.ifnonnull 13, 3) := by decide +kernel
theorem dX7_halt_24 : decode cX7_halt 24 = .ok (.new 60, 3) := by decide +kernel
theorem dX7_halt_27 : decode cX7_halt 27 = .ok (.dup, 1) := by decide +kernel
theorem dX7_halt_28 : decode cX7_halt 28 = .ok (.ldc 203, 2) := by decide +kernel
theorem dX7_halt_30 : decode cX7_halt 30 = .ok (.invokespecial 64, 3) := by decide +kernel
theorem dX7_halt_33 : decode cX7_halt 33 = .ok (.athrow, 1) := by decide +kernel
theorem dX7_halt_34 : decode cX7_halt 34 = .ok (.aload_n 2, 1) := by decide +kernel
theorem dX7_halt_35 : decode cX7_halt 35 = .ok (.aload_n 2, 1) := by decide +kernel
theorem dX7_halt_36 : decode cX7_halt 36 = .ok (.invokevirtual 205, 3) := by decide +kernel
theorem dX7_halt_39 : decode cX7_halt 39 = .ok (.putfield 209, 3) := by decide +kernel
theorem dX7_halt_42 : decode cX7_halt 42 = .ok (.aload_n 1, 1) := by decide +kernel
theorem dX7_halt_43 : decode cX7_halt 43 = .ok (.aload_n 2, 1) := by decide +kernel
theorem dX7_halt_44 : decode cX7_halt 44 = .ok (.invokevirtual 212, 3) := by decide +kernel
theorem dX7_halt_47 : decode cX7_halt 47 = .ok (.aload_n 0, 1) := by decide +kernel
theorem dX7_halt_48 : decode cX7_halt 48 = .ok (.getfield 30, 3) := by decide +kernel
theorem dX7_halt_51 : decode cX7_halt 51 = .ok (.aconst_null, 1) := by decide +kernel
theorem dX7_halt_52 : decode cX7_halt 52 = .ok (.putfield 101, 3) := by decide +kernel
theorem dX7_halt_55 : decode cX7_halt 55 = .ok (.aload_n 0, 1) := by decide +kernel
theorem dX7_halt_56 : decode cX7_halt 56 = .ok (.getfield 30, 3) := by decide +kernel
theorem dX7_halt_59 : decode cX7_halt 59 = .ok (.iconst 1, 1) := by decide +kernel
theorem dX7_halt_60 : decode cX7_halt 60 = .ok (.putfield 216, 3) := by decide +kernel
theorem dX7_halt_63 : decode cX7_halt 63 = .ok (.aload_n 0, 1) := by decide +kernel
theorem dX7_halt_64 : decode cX7_halt 64 = .ok (.getfield 37, 3) := by decide +kernel
theorem dX7_halt_67 : decode cX7_halt 67 = .ok (.aload_n 0, 1) := by decide +kernel
theorem dX7_halt_68 : decode cX7_halt 68 = .ok (.getfield 30, 3) := by decide +kernel
theorem dX7_halt_71 : decode cX7_halt 71 = .ok (.invokevirtual 219, 3) := by decide +kernel
theorem dX7_halt_74 : decode cX7_halt 74 = .ok (.aload_n 1, 1) := by decide +kernel
theorem dX7_halt_75 : decode cX7_halt 75 = .ok (.aload_n 2, 1) := by decide +kernel
theorem dX7_halt_76 : decode cX7_halt 76 = .ok (.invokevirtual 223, 3) := by decide +kernel
theorem dX7_halt_79 : decode cX7_halt 79 = .ok (.ireturn, 1) := by decide +kernel
theorem dX7_appeal_0 : decode cX7_appeal 0 = .ok (.iload_n 1, 1) := by decide +kernel
theorem dX7_appeal_1 : decode cX7_appeal 1 = .ok (.invokestatic 144, 3) := by decide +kernel
theorem dX7_appeal_4 : decode cX7_appeal 4 = .ok (.ifCond .ne 13, 3) := by decide +kernel
theorem dX7_appeal_7 : decode cX7_appeal 7 = .ok (.new 74, 3) := by decide +kernel
theorem dX7_appeal_10 : decode cX7_appeal 10 = .ok (.dup, 1) := by decide +kernel
theorem dX7_appeal_11 : decode cX7_appeal 11 = .ok (.ldc 179, 2) := by decide +kernel
theorem dX7_appeal_13 : decode cX7_appeal 13 = .ok (.invokespecial 78, 3) := by decide +kernel
theorem dX7_appeal_16 : decode cX7_appeal 16 = .ok (.athrow, 1) := by decide +kernel
theorem dX7_appeal_17 : decode cX7_appeal 17 = .ok (.iload_n 2, 1) := by decide +kernel
theorem dX7_appeal_18 : decode cX7_appeal 18 = .ok (.invokestatic 198, 3) := by decide +kernel
theorem dX7_appeal_21 : decode cX7_appeal 21 = .ok (.ifCond .ne 13, 3) := by decide +kernel
theorem dX7_appeal_24 : decode cX7_appeal 24 = .ok (.new 93, 3) := by decide +kernel
theorem dX7_appeal_27 : decode cX7_appeal 27 = .ok (.dup, 1) := by decide +kernel
theorem dX7_appeal_28 : decode cX7_appeal 28 = .ok (.ldc 227, 2) := by decide +kernel
theorem dX7_appeal_30 : decode cX7_appeal 30 = .ok (.invokespecial 97, 3) := by decide +kernel
theorem dX7_appeal_33 : decode cX7_appeal 33 = .ok (.athrow, 1) := by decide +kernel
theorem dX7_appeal_34 : decode cX7_appeal 34 = .ok (.aload_n 0, 1) := by decide +kernel
theorem dX7_appeal_35 : decode cX7_appeal 35 = .ok (.getfield 30, 3) := by decide +kernel
theorem dX7_appeal_38 : decode cX7_appeal 38 = .ok (.getfield 149, 3) := by decide +kernel
theorem dX7_appeal_41 : decode cX7_appeal 41 = .ok (.astore_n 3, 1) := by decide +kernel
theorem dX7_appeal_42 : decode cX7_appeal 42 = .ok (.aload_n 3, 1) := by decide +kernel
theorem dX7_appeal_43 : decode cX7_appeal 43 = .ok (.ifnull 23, 3) := by decide +kernel
theorem dX7_appeal_46 : decode cX7_appeal 46 = .ok (.aload_n 0, 1) := by decide +kernel
theorem dX7_appeal_47 : decode cX7_appeal 47 = .ok (.getfield 30, 3) := by decide +kernel
theorem dX7_appeal_50 : decode cX7_appeal 50 = .ok (.getfield 101, 3) := by decide +kernel
theorem dX7_appeal_53 : decode cX7_appeal 53 = .ok (.ifnonnull 13, 3) := by decide +kernel
theorem dX7_appeal_56 : decode cX7_appeal 56 = .ok (.aload_n 0, 1) := by decide +kernel
theorem dX7_appeal_57 : decode cX7_appeal 57 = .ok (.getfield 30, 3) := by decide +kernel
theorem dX7_appeal_60 : decode cX7_appeal 60 = .ok (.getfield 216, 3) := by decide +kernel
theorem dX7_appeal_63 : decode cX7_appeal 63 = .ok (.ifCond .ne 13, 3) := by decide +kernel
theorem dX7_appeal_66 : decode cX7_appeal 66 = .ok (.new 60, 3) := by decide +kernel
theorem dX7_appeal_69 : decode cX7_appeal 69 = .ok (.dup, 1) := by decide +kernel
theorem dX7_appeal_70 : decode cX7_appeal 70 = .ok (.ldc 229, 2) := by decide +kernel
theorem dX7_appeal_72 : decode cX7_appeal 72 = .ok (.invokespecial 64, 3) := by decide +kernel
theorem dX7_appeal_75 : decode cX7_appeal 75 = .ok (.athrow, 1) := by decide +kernel
theorem dX7_appeal_76 : decode cX7_appeal 76 = .ok (.aload_n 3, 1) := by decide +kernel
theorem dX7_appeal_77 : decode cX7_appeal 77 = .ok (.aload_n 3, 1) := by decide +kernel
theorem dX7_appeal_78 : decode cX7_appeal 78 = .ok (.getfield 141, 3) := by decide +kernel
theorem dX7_appeal_81 : decode cX7_appeal 81 = .ok (.iconst 1, 1) := by decide +kernel
theorem dX7_appeal_82 : decode cX7_appeal 82 = .ok (.isub, 1) := by decide +kernel
theorem dX7_appeal_83 : decode cX7_appeal 83 = .ok (.invokevirtual 231, 3) := by decide +kernel
theorem dX7_appeal_86 : decode cX7_appeal 86 = .ok (.astore 4, 2) := by decide +kernel
theorem dX7_appeal_88 : decode cX7_appeal 88 = .ok (.aload 4, 2) := by decide +kernel
theorem dX7_appeal_90 : decode cX7_appeal 90 = .ok (.ifnull 11, 3) := by decide +kernel
theorem dX7_appeal_93 : decode cX7_appeal 93 = .ok (.aload_n 3, 1) := by decide +kernel
theorem dX7_appeal_94 : decode cX7_appeal 94 = .ok (.iload_n 1, 1) := by decide +kernel
theorem dX7_appeal_95 : decode cX7_appeal 95 = .ok (.invokevirtual 235, 3) := by decide +kernel
theorem dX7_appeal_98 : decode cX7_appeal 98 = .ok (.ifCond .ne 13, 3) := by decide +kernel
theorem dX7_appeal_101 : decode cX7_appeal 101 = .ok (.new 60, 3) := by decide +kernel
theorem dX7_appeal_104 : decode cX7_appeal 104 = .ok (.dup, 1) := by decide +kernel
theorem dX7_appeal_105 : decode cX7_appeal 105 = .ok (.ldc 238, 2) := by decide +kernel
theorem dX7_appeal_107 : decode cX7_appeal 107 = .ok (.invokespecial 64, 3) := by decide +kernel
theorem dX7_appeal_110 : decode cX7_appeal 110 = .ok (.athrow, 1) := by decide +kernel
theorem dX7_appeal_111 : decode cX7_appeal 111 = .ok (.aload_n 3, 1) := by decide +kernel
theorem dX7_appeal_112 : decode cX7_appeal 112 = .ok (.aload 4, 2) := by decide +kernel
theorem dX7_appeal_114 : decode cX7_appeal 114 = .ok (.invokevirtual 223, 3) := by decide +kernel
theorem dX7_appeal_117 : decode cX7_appeal 117 = .ok (.istore 5, 2) := by decide +kernel
theorem dX7_appeal_119 : decode cX7_appeal 119 = .ok (.aload 4, 2) := by decide +kernel
theorem dX7_appeal_121 : decode cX7_appeal 121 = .ok (.iload_n 2, 1) := by decide +kernel
theorem dX7_appeal_122 : decode cX7_appeal 122 = .ok (.invokevirtual 240, 3) := by decide +kernel
theorem dX7_appeal_125 : decode cX7_appeal 125 = .ok (.aload_n 3, 1) := by decide +kernel
theorem dX7_appeal_126 : decode cX7_appeal 126 = .ok (.aload 4, 2) := by decide +kernel
theorem dX7_appeal_128 : decode cX7_appeal 128 = .ok (.invokevirtual 223, 3) := by decide +kernel
theorem dX7_appeal_131 : decode cX7_appeal 131 = .ok (.istore 6, 2) := by decide +kernel
theorem dX7_appeal_133 : decode cX7_appeal 133 = .ok (.iload 6, 2) := by decide +kernel
theorem dX7_appeal_135 : decode cX7_appeal 135 = .ok (.iload 5, 2) := by decide +kernel
theorem dX7_appeal_137 : decode cX7_appeal 137 = .ok (.if_icmp .ne 8, 3) := by decide +kernel
theorem dX7_appeal_140 : decode cX7_appeal 140 = .ok (.aload_n 3, 1) := by decide +kernel
theorem dX7_appeal_141 : decode cX7_appeal 141 = .ok (.iload_n 1, 1) := by decide +kernel
theorem dX7_appeal_142 : decode cX7_appeal 142 = .ok (.invokevirtual 243, 3) := by decide +kernel
theorem dX7_appeal_145 : decode cX7_appeal 145 = .ok (.aload_n 3, 1) := by decide +kernel
theorem dX7_appeal_146 : decode cX7_appeal 146 = .ok (.invokevirtual 246, 3) := by decide +kernel
theorem dX7_appeal_149 : decode cX7_appeal 149 = .ok (.aload_n 0, 1) := by decide +kernel
theorem dX7_appeal_150 : decode cX7_appeal 150 = .ok (.getfield 37, 3) := by decide +kernel
theorem dX7_appeal_153 : decode cX7_appeal 153 = .ok (.aload_n 0, 1) := by decide +kernel
theorem dX7_appeal_154 : decode cX7_appeal 154 = .ok (.getfield 30, 3) := by decide +kernel
theorem dX7_appeal_157 : decode cX7_appeal 157 = .ok (.invokevirtual 219, 3) := by decide +kernel
theorem dX7_appeal_160 : decode cX7_appeal 160 = .ok (.iload 6, 2) := by decide +kernel
theorem dX7_appeal_162 : decode cX7_appeal 162 = .ok (.ireturn, 1) := by decide +kernel
theorem dX7_piste_0 : decode cX7_piste 0 = .ok (.aload_n 0, 1) := by decide +kernel
theorem dX7_piste_1 : decode cX7_piste 1 = .ok (.getfield 30, 3) := by decide +kernel
theorem dX7_piste_4 : decode cX7_piste 4 = .ok (.getfield 249, 3) := by decide +kernel
theorem dX7_piste_7 : decode cX7_piste 7 = .ok (.ireturn, 1) := by decide +kernel
theorem dX7_isFencing_0 : decode cX7_isFencing 0 = .ok (.aload_n 0, 1) := by decide +kernel
theorem dX7_isFencing_1 : decode cX7_isFencing 1 = .ok (.getfield 30, 3) := by decide +kernel
theorem dX7_isFencing_4 : decode cX7_isFencing 4 = .ok (.getfield 101, 3) := by decide +kernel
theorem dX7_isFencing_7 : decode cX7_isFencing 7 = .ok (.ifnull 7, 3) := by decide +kernel
theorem dX7_isFencing_10 : decode cX7_isFencing 10 = .ok (.iconst 1, 1) := by decide +kernel
theorem dX7_isFencing_11 : decode cX7_isFencing 11 = .ok (.goto 4, 3) := by decide +kernel
theorem dX7_isFencing_14 : decode cX7_isFencing 14 = .ok (.iconst 0, 1) := by decide +kernel
theorem dX7_isFencing_15 : decode cX7_isFencing 15 = .ok (.ireturn, 1) := by decide +kernel
theorem dX7_weaponOf_0 : decode cX7_weaponOf 0 = .ok (.iload_n 1, 1) := by decide +kernel
theorem dX7_weaponOf_1 : decode cX7_weaponOf 1 = .ok (.invokestatic 144, 3) := by decide +kernel
theorem dX7_weaponOf_4 : decode cX7_weaponOf 4 = .ok (.ifCond .ne 13, 3) := by decide +kernel
theorem dX7_weaponOf_7 : decode cX7_weaponOf 7 = .ok (.new 74, 3) := by decide +kernel
theorem dX7_weaponOf_10 : decode cX7_weaponOf 10 = .ok (.dup, 1) := by decide +kernel
theorem dX7_weaponOf_11 : decode cX7_weaponOf 11 = .ok (.ldc 179, 2) := by decide +kernel
theorem dX7_weaponOf_13 : decode cX7_weaponOf 13 = .ok (.invokespecial 78, 3) := by decide +kernel
theorem dX7_weaponOf_16 : decode cX7_weaponOf 16 = .ok (.athrow, 1) := by decide +kernel
theorem dX7_weaponOf_17 : decode cX7_weaponOf 17 = .ok (.aload_n 0, 1) := by decide +kernel
theorem dX7_weaponOf_18 : decode cX7_weaponOf 18 = .ok (.getfield 30, 3) := by decide +kernel
theorem dX7_weaponOf_21 : decode cX7_weaponOf 21 = .ok (.iload_n 1, 1) := by decide +kernel
theorem dX7_weaponOf_22 : decode cX7_weaponOf 22 = .ok (.invokevirtual 160, 3) := by decide +kernel
theorem dX7_weaponOf_25 : decode cX7_weaponOf 25 = .ok (.ireturn, 1) := by decide +kernel
theorem dX7_fencerOf_0 : decode cX7_fencerOf 0 = .ok (.aload_n 0, 1) := by decide +kernel
theorem dX7_fencerOf_1 : decode cX7_fencerOf 1 = .ok (.iload_n 1, 1) := by decide +kernel
theorem dX7_fencerOf_2 : decode cX7_fencerOf 2 = .ok (.invokevirtual 114, 3) := by decide +kernel
theorem dX7_fencerOf_5 : decode cX7_fencerOf 5 = .ok (.astore_n 3, 1) := by decide +kernel
theorem dX7_fencerOf_6 : decode cX7_fencerOf 6 = .ok (.aload_n 3, 1) := by decide +kernel
theorem dX7_fencerOf_7 : decode cX7_fencerOf 7 = .ok (.ifnull 10, 3) := by decide +kernel
theorem dX7_fencerOf_10 : decode cX7_fencerOf 10 = .ok (.iload_n 2, 1) := by decide +kernel
theorem dX7_fencerOf_11 : decode cX7_fencerOf 11 = .ok (.invokestatic 144, 3) := by decide +kernel
theorem dX7_fencerOf_14 : decode cX7_fencerOf 14 = .ok (.ifCond .ne 13, 3) := by decide +kernel
theorem dX7_fencerOf_17 : decode cX7_fencerOf 17 = .ok (.new 74, 3) := by decide +kernel
theorem dX7_fencerOf_20 : decode cX7_fencerOf 20 = .ok (.dup, 1) := by decide +kernel
theorem dX7_fencerOf_21 : decode cX7_fencerOf 21 = .ok (.ldc 252, 2) := by decide +kernel
theorem dX7_fencerOf_23 : decode cX7_fencerOf 23 = .ok (.invokespecial 78, 3) := by decide +kernel
theorem dX7_fencerOf_26 : decode cX7_fencerOf 26 = .ok (.athrow, 1) := by decide +kernel
theorem dX7_fencerOf_27 : decode cX7_fencerOf 27 = .ok (.aload_n 3, 1) := by decide +kernel
theorem dX7_fencerOf_28 : decode cX7_fencerOf 28 = .ok (.iload_n 2, 1) := by decide +kernel
theorem dX7_fencerOf_29 : decode cX7_fencerOf 29 = .ok (.invokevirtual 155, 3) := by decide +kernel
theorem dX7_fencerOf_32 : decode cX7_fencerOf 32 = .ok (.ireturn, 1) := by decide +kernel
theorem dX7_score_0 : decode cX7_score 0 = .ok (.aload_n 0, 1) := by decide +kernel
theorem dX7_score_1 : decode cX7_score 1 = .ok (.iload_n 1, 1) := by decide +kernel
theorem dX7_score_2 : decode cX7_score 2 = .ok (.invokevirtual 114, 3) := by decide +kernel
theorem dX7_score_5 : decode cX7_score 5 = .ok (.astore_n 3, 1) := by decide +kernel
theorem dX7_score_6 : decode cX7_score 6 = .ok (.aload_n 3, 1) := by decide +kernel
theorem dX7_score_7 : decode cX7_score 7 = .ok (.ifnull 10, 3) := by decide +kernel
theorem dX7_score_10 : decode cX7_score 10 = .ok (.iload_n 2, 1) := by decide +kernel
theorem dX7_score_11 : decode cX7_score 11 = .ok (.invokestatic 144, 3) := by decide +kernel
theorem dX7_score_14 : decode cX7_score 14 = .ok (.ifCond .ne 13, 3) := by decide +kernel
theorem dX7_score_17 : decode cX7_score 17 = .ok (.new 74, 3) := by decide +kernel
theorem dX7_score_20 : decode cX7_score 20 = .ok (.dup, 1) := by decide +kernel
theorem dX7_score_21 : decode cX7_score 21 = .ok (.ldc 252, 2) := by decide +kernel
theorem dX7_score_23 : decode cX7_score 23 = .ok (.invokespecial 78, 3) := by decide +kernel
theorem dX7_score_26 : decode cX7_score 26 = .ok (.athrow, 1) := by decide +kernel
theorem dX7_score_27 : decode cX7_score 27 = .ok (.aload_n 3, 1) := by decide +kernel
theorem dX7_score_28 : decode cX7_score 28 = .ok (.getfield 254, 3) := by decide +kernel
theorem dX7_score_31 : decode cX7_score 31 = .ok (.iload_n 2, 1) := by decide +kernel
theorem dX7_score_32 : decode cX7_score 32 = .ok (.invokevirtual 257, 3) := by decide +kernel
theorem dX7_score_35 : decode cX7_score 35 = .ok (.ireturn, 1) := by decide +kernel
theorem dX7_scoreAnew_0 : decode cX7_scoreAnew 0 = .ok (.aload_n 0, 1) := by decide +kernel
theorem dX7_scoreAnew_1 : decode cX7_scoreAnew 1 = .ok (.iload_n 1, 1) := by decide +kernel
theorem dX7_scoreAnew_2 : decode cX7_scoreAnew 2 = .ok (.invokevirtual 114, 3) := by decide +kernel
theorem dX7_scoreAnew_5 : decode cX7_scoreAnew 5 = .ok (.astore_n 3, 1) := by decide +kernel
theorem dX7_scoreAnew_6 : decode cX7_scoreAnew 6 = .ok (.aload_n 3, 1) := by decide +kernel
theorem dX7_scoreAnew_7 : decode cX7_scoreAnew 7 = .ok (.ifnull 10, 3) := by decide +kernel
theorem dX7_scoreAnew_10 : decode cX7_scoreAnew 10 = .ok (.iload_n 2, 1) := by decide +kernel
theorem dX7_scoreAnew_11 : decode cX7_scoreAnew 11 = .ok (.invokestatic 144, 3) := by decide +kernel
theorem dX7_scoreAnew_14 : decode cX7_scoreAnew 14 = .ok (.ifCond .ne 13, 3) := by decide +kernel
theorem dX7_scoreAnew_17 : decode cX7_scoreAnew 17 = .ok (.new 74, 3) := by decide +kernel
theorem dX7_scoreAnew_20 : decode cX7_scoreAnew 20 = .ok (.dup, 1) := by decide +kernel
theorem dX7_scoreAnew_21 : decode cX7_scoreAnew 21 = .ok (.ldc 252, 2) := by decide +kernel
theorem dX7_scoreAnew_23 : decode cX7_scoreAnew 23 = .ok (.invokespecial 78, 3) := by decide +kernel
theorem dX7_scoreAnew_26 : decode cX7_scoreAnew 26 = .ok (.athrow, 1) := by decide +kernel
theorem dX7_scoreAnew_27 : decode cX7_scoreAnew 27 = .ok (.aload_n 3, 1) := by decide +kernel
theorem dX7_scoreAnew_28 : decode cX7_scoreAnew 28 = .ok (.aload_n 0, 1) := by decide +kernel
theorem dX7_scoreAnew_29 : decode cX7_scoreAnew 29 = .ok (.getfield 44, 3) := by decide +kernel
theorem dX7_scoreAnew_32 : decode cX7_scoreAnew 32 = .ok (.invokevirtual 260, 3) := by decide +kernel
theorem dX7_scoreAnew_35 : decode cX7_scoreAnew 35 = .ok (.aload_n 0, 1) := by decide +kernel
theorem dX7_scoreAnew_36 : decode cX7_scoreAnew 36 = .ok (.getfield 44, 3) := by decide +kernel
theorem dX7_scoreAnew_39 : decode cX7_scoreAnew 39 = .ok (.iload_n 2, 1) := by decide +kernel
theorem dX7_scoreAnew_40 : decode cX7_scoreAnew 40 = .ok (.invokevirtual 257, 3) := by decide +kernel
theorem dX7_scoreAnew_43 : decode cX7_scoreAnew 43 = .ok (.ireturn, 1) := by decide +kernel
theorem dX7_winner_0 : decode cX7_winner 0 = .ok (.aload_n 0, 1) := by decide +kernel
theorem dX7_winner_1 : decode cX7_winner 1 = .ok (.iload_n 1, 1) := by decide +kernel
theorem dX7_winner_2 : decode cX7_winner 2 = .ok (.invokevirtual 114, 3) := by decide +kernel
theorem dX7_winner_5 : decode cX7_winner 5 = .ok (.astore_n 2, 1) := by decide +kernel
theorem dX7_winner_6 : decode cX7_winner 6 = .ok (.aload_n 2, 1) := by decide +kernel
theorem dX7_winner_7 : decode cX7_winner 7 = .ok (.ifnonnull 14, 3) := by decide +kernel
theorem dX7_winner_10 : decode cX7_winner 10 = .ok (.new 74, 3) := by decide +kernel
theorem dX7_winner_13 : decode cX7_winner 13 = .ok (.dup, 1) := by decide +kernel
theorem dX7_winner_14 : decode cX7_winner 14 = .ok (.ldc_w 264, 3) := by decide +kernel
theorem dX7_winner_17 : decode cX7_winner 17 = .ok (.invokespecial 78, 3) := by decide +kernel
theorem dX7_winner_20 : decode cX7_winner 20 = .ok (.athrow, 1) := by decide +kernel
theorem dX7_winner_21 : decode cX7_winner 21 = .ok (.aload_n 2, 1) := by decide +kernel
theorem dX7_winner_22 : decode cX7_winner 22 = .ok (.getfield 266, 3) := by decide +kernel
theorem dX7_winner_25 : decode cX7_winner 25 = .ok (.ifCond .eq 8, 3) := by decide +kernel
theorem dX7_winner_28 : decode cX7_winner 28 = .ok (.aload_n 2, 1) := by decide +kernel
theorem dX7_winner_29 : decode cX7_winner 29 = .ok (.invokevirtual 269, 3) := by decide +kernel
theorem dX7_winner_32 : decode cX7_winner 32 = .ok (.ireturn, 1) := by decide +kernel
theorem dX7_winner_33 : decode cX7_winner 33 = .ok (.aload_n 0, 1) := by decide +kernel
theorem dX7_winner_34 : decode cX7_winner 34 = .ok (.getfield 37, 3) := by decide +kernel
theorem dX7_winner_37 : decode cX7_winner 37 = .ok (.iload_n 1, 1) := by decide +kernel
theorem dX7_winner_38 : decode cX7_winner 38 = .ok (.bipush 100, 2) := by decide +kernel
theorem dX7_winner_40 : decode cX7_winner 40 = .ok (.isub, 1) := by decide +kernel
theorem dX7_winner_41 : decode cX7_winner 41 = .ok (.invokevirtual 272, 3) := by decide +kernel
theorem dX7_winner_44 : decode cX7_winner 44 = .ok (.ireturn, 1) := by decide +kernel
theorem dX7_phrases_0 : decode cX7_phrases 0 = .ok (.aload_n 0, 1) := by decide +kernel
theorem dX7_phrases_1 : decode cX7_phrases 1 = .ok (.iload_n 1, 1) := by decide +kernel
theorem dX7_phrases_2 : decode cX7_phrases 2 = .ok (.invokevirtual 114, 3) := by decide +kernel
theorem dX7_phrases_5 : decode cX7_phrases 5 = .ok (.astore_n 2, 1) := by decide +kernel
theorem dX7_phrases_6 : decode cX7_phrases 6 = .ok (.aload_n 2, 1) := by decide +kernel
theorem dX7_phrases_7 : decode cX7_phrases 7 = .ok (.ifnonnull 14, 3) := by decide +kernel
theorem dX7_phrases_10 : decode cX7_phrases 10 = .ok (.new 74, 3) := by decide +kernel
theorem dX7_phrases_13 : decode cX7_phrases 13 = .ok (.dup, 1) := by decide +kernel
theorem dX7_phrases_14 : decode cX7_phrases 14 = .ok (.ldc_w 264, 3) := by decide +kernel
theorem dX7_phrases_17 : decode cX7_phrases 17 = .ok (.invokespecial 78, 3) := by decide +kernel
theorem dX7_phrases_20 : decode cX7_phrases 20 = .ok (.athrow, 1) := by decide +kernel
theorem dX7_phrases_21 : decode cX7_phrases 21 = .ok (.aload_n 2, 1) := by decide +kernel
theorem dX7_phrases_22 : decode cX7_phrases 22 = .ok (.getfield 141, 3) := by decide +kernel
theorem dX7_phrases_25 : decode cX7_phrases 25 = .ok (.ireturn, 1) := by decide +kernel
theorem dX7_touches_0 : decode cX7_touches 0 = .ok (.aload_n 0, 1) := by decide +kernel
theorem dX7_touches_1 : decode cX7_touches 1 = .ok (.iload_n 1, 1) := by decide +kernel
theorem dX7_touches_2 : decode cX7_touches 2 = .ok (.invokevirtual 114, 3) := by decide +kernel
theorem dX7_touches_5 : decode cX7_touches 5 = .ok (.astore_n 3, 1) := by decide +kernel
theorem dX7_touches_6 : decode cX7_touches 6 = .ok (.aload_n 3, 1) := by decide +kernel
theorem dX7_touches_7 : decode cX7_touches 7 = .ok (.ifnonnull 14, 3) := by decide +kernel
theorem dX7_touches_10 : decode cX7_touches 10 = .ok (.new 74, 3) := by decide +kernel
theorem dX7_touches_13 : decode cX7_touches 13 = .ok (.dup, 1) := by decide +kernel
theorem dX7_touches_14 : decode cX7_touches 14 = .ok (.ldc_w 264, 3) := by decide +kernel
theorem dX7_touches_17 : decode cX7_touches 17 = .ok (.invokespecial 78, 3) := by decide +kernel
theorem dX7_touches_20 : decode cX7_touches 20 = .ok (.athrow, 1) := by decide +kernel
theorem dX7_touches_21 : decode cX7_touches 21 = .ok (.aload_n 3, 1) := by decide +kernel
theorem dX7_touches_22 : decode cX7_touches 22 = .ok (.iload_n 2, 1) := by decide +kernel
theorem dX7_touches_23 : decode cX7_touches 23 = .ok (.invokevirtual 231, 3) := by decide +kernel
theorem dX7_touches_26 : decode cX7_touches 26 = .ok (.astore 4, 2) := by decide +kernel
theorem dX7_touches_28 : decode cX7_touches 28 = .ok (.aload 4, 2) := by decide +kernel
theorem dX7_touches_30 : decode cX7_touches 30 = .ok (.ifnonnull 14, 3) := by decide +kernel
theorem dX7_touches_33 : decode cX7_touches 33 = .ok (.new 74, 3) := by decide +kernel
theorem dX7_touches_36 : decode cX7_touches 36 = .ok (.dup, 1) := by decide +kernel
theorem dX7_touches_37 : decode cX7_touches 37 = .ok (.ldc_w 275, 3) := by decide +kernel
theorem dX7_touches_40 : decode cX7_touches 40 = .ok (.invokespecial 78, 3) := by decide +kernel
theorem dX7_touches_43 : decode cX7_touches 43 = .ok (.athrow, 1) := by decide +kernel
theorem dX7_touches_44 : decode cX7_touches 44 = .ok (.aload_n 3, 1) := by decide +kernel
theorem dX7_touches_45 : decode cX7_touches 45 = .ok (.aload 4, 2) := by decide +kernel
theorem dX7_touches_47 : decode cX7_touches 47 = .ok (.invokevirtual 223, 3) := by decide +kernel
theorem dX7_touches_50 : decode cX7_touches 50 = .ok (.ireturn, 1) := by decide +kernel
theorem dX7_appeals_0 : decode cX7_appeals 0 = .ok (.aload_n 0, 1) := by decide +kernel
theorem dX7_appeals_1 : decode cX7_appeals 1 = .ok (.iload_n 1, 1) := by decide +kernel
theorem dX7_appeals_2 : decode cX7_appeals 2 = .ok (.invokevirtual 114, 3) := by decide +kernel
theorem dX7_appeals_5 : decode cX7_appeals 5 = .ok (.astore_n 3, 1) := by decide +kernel
theorem dX7_appeals_6 : decode cX7_appeals 6 = .ok (.aload_n 3, 1) := by decide +kernel
theorem dX7_appeals_7 : decode cX7_appeals 7 = .ok (.ifnull 10, 3) := by decide +kernel
theorem dX7_appeals_10 : decode cX7_appeals 10 = .ok (.iload_n 2, 1) := by decide +kernel
theorem dX7_appeals_11 : decode cX7_appeals 11 = .ok (.invokestatic 144, 3) := by decide +kernel
theorem dX7_appeals_14 : decode cX7_appeals 14 = .ok (.ifCond .ne 13, 3) := by decide +kernel
theorem dX7_appeals_17 : decode cX7_appeals 17 = .ok (.new 74, 3) := by decide +kernel
theorem dX7_appeals_20 : decode cX7_appeals 20 = .ok (.dup, 1) := by decide +kernel
theorem dX7_appeals_21 : decode cX7_appeals 21 = .ok (.ldc 252, 2) := by decide +kernel
theorem dX7_appeals_23 : decode cX7_appeals 23 = .ok (.invokespecial 78, 3) := by decide +kernel
theorem dX7_appeals_26 : decode cX7_appeals 26 = .ok (.athrow, 1) := by decide +kernel
theorem dX7_appeals_27 : decode cX7_appeals 27 = .ok (.aload_n 3, 1) := by decide +kernel
theorem dX7_appeals_28 : decode cX7_appeals 28 = .ok (.iload_n 2, 1) := by decide +kernel
theorem dX7_appeals_29 : decode cX7_appeals 29 = .ok (.invokevirtual 235, 3) := by decide +kernel
theorem dX7_appeals_32 : decode cX7_appeals 32 = .ok (.ireturn, 1) := by decide +kernel
theorem dX7_drawPools_0 : decode cX7_drawPools 0 = .ok (.iload_n 1, 1) := by decide +kernel
theorem dX7_drawPools_1 : decode cX7_drawPools 1 = .ok (.iconst 1, 1) := by decide +kernel
theorem dX7_drawPools_2 : decode cX7_drawPools 2 = .ok (.if_icmp .lt 8, 3) := by decide +kernel
theorem dX7_drawPools_5 : decode cX7_drawPools 5 = .ok (.iload_n 1, 1) := by decide +kernel
theorem dX7_drawPools_6 : decode cX7_drawPools 6 = .ok (.iconst 4, 1) := by decide +kernel
theorem dX7_drawPools_7 : decode cX7_drawPools 7 = .ok (.if_icmp .le 14, 3) := by decide +kernel
theorem dX7_drawPools_10 : decode cX7_drawPools 10 = .ok (.new 93, 3) := by decide +kernel
theorem dX7_drawPools_13 : decode cX7_drawPools 13 = .ok (.dup, 1) := by decide +kernel
theorem dX7_drawPools_14 : decode cX7_drawPools 14 = .ok (.ldc_w 277, 3) := by decide +kernel
theorem dX7_drawPools_17 : decode cX7_drawPools 17 = .ok (.invokespecial 97, 3) := by decide +kernel
theorem dX7_drawPools_20 : decode cX7_drawPools 20 = .ok (.athrow, 1) := by decide +kernel
theorem dX7_drawPools_21 : decode cX7_drawPools 21 = .ok (.aload_n 0, 1) := by decide +kernel
theorem dX7_drawPools_22 : decode cX7_drawPools 22 = .ok (.invokevirtual 56, 3) := by decide +kernel
theorem dX7_drawPools_25 : decode cX7_drawPools 25 = .ok (.ifCond .ne 13, 3) := by decide +kernel
theorem dX7_drawPools_28 : decode cX7_drawPools 28 = .ok (.aload_n 0, 1) := by decide +kernel
theorem dX7_drawPools_29 : decode cX7_drawPools 29 = .ok (.getfield 52, 3) := by decide +kernel
theorem dX7_drawPools_32 : decode cX7_drawPools 32 = .ok (.iconst 2, 1) := by decide +kernel
theorem dX7_drawPools_33 : decode cX7_drawPools 33 = .ok (.iload_n 1, 1) := by decide +kernel
theorem dX7_drawPools_34 : decode cX7_drawPools 34 = .ok (.imul, 1) := by decide +kernel
theorem dX7_drawPools_35 : decode cX7_drawPools 35 = .ok (.if_icmp .ge 14, 3) := by decide +kernel
theorem dX7_drawPools_38 : decode cX7_drawPools 38 = .ok (.new 60, 3) := by decide +kernel
theorem dX7_drawPools_41 : decode cX7_drawPools 41 = .ok (.dup, 1) := by decide +kernel
theorem dX7_drawPools_42 : decode cX7_drawPools 42 = .ok (.ldc_w 279, 3) := by decide +kernel
theorem dX7_drawPools_45 : decode cX7_drawPools 45 = .ok (.invokespecial 64, 3) := by decide +kernel
theorem dX7_drawPools_48 : decode cX7_drawPools 48 = .ok (.athrow, 1) := by decide +kernel
theorem dX7_drawPools_49 : decode cX7_drawPools 49 = .ok (.iconst 0, 1) := by decide +kernel
theorem dX7_drawPools_50 : decode cX7_drawPools 50 = .ok (.istore_n 2, 1) := by decide +kernel
theorem dX7_drawPools_51 : decode cX7_drawPools 51 = .ok (.iload_n 2, 1) := by decide +kernel
theorem dX7_drawPools_52 : decode cX7_drawPools 52 = .ok (.iload_n 1, 1) := by decide +kernel
theorem dX7_drawPools_53 : decode cX7_drawPools 53 = .ok (.if_icmp .ge 15, 3) := by decide +kernel
theorem dX7_drawPools_56 : decode cX7_drawPools 56 = .ok (.aload_n 0, 1) := by decide +kernel
theorem dX7_drawPools_57 : decode cX7_drawPools 57 = .ok (.iload_n 2, 1) := by decide +kernel
theorem dX7_drawPools_58 : decode cX7_drawPools 58 = .ok (.iload_n 1, 1) := by decide +kernel
theorem dX7_drawPools_59 : decode cX7_drawPools 59 = .ok (.invokevirtual 281, 3) := by decide +kernel
theorem dX7_drawPools_62 : decode cX7_drawPools 62 = .ok (.iinc 2 1, 3) := by decide +kernel
theorem dX7_drawPools_65 : decode cX7_drawPools 65 = .ok (.goto (-14), 3) := by decide +kernel
theorem dX7_drawPools_68 : decode cX7_drawPools 68 = .ok (.aload_n 0, 1) := by decide +kernel
theorem dX7_drawPools_69 : decode cX7_drawPools 69 = .ok (.getfield 284, 3) := by decide +kernel
theorem dX7_drawPools_72 : decode cX7_drawPools 72 = .ok (.ireturn, 1) := by decide +kernel
theorem dX7_won_0 : decode cX7_won 0 = .ok (.aload_n 0, 1) := by decide +kernel
theorem dX7_won_1 : decode cX7_won 1 = .ok (.iload_n 1, 1) := by decide +kernel
theorem dX7_won_2 : decode cX7_won 2 = .ok (.invokevirtual 70, 3) := by decide +kernel
theorem dX7_won_5 : decode cX7_won 5 = .ok (.astore_n 2, 1) := by decide +kernel
theorem dX7_won_6 : decode cX7_won 6 = .ok (.aload_n 2, 1) := by decide +kernel
theorem dX7_won_7 : decode cX7_won 7 = .ok (.ifnonnull 13, 3) := by decide +kernel
theorem dX7_won_10 : decode cX7_won 10 = .ok (.new 74, 3) := by decide +kernel
theorem dX7_won_13 : decode cX7_won 13 = .ok (.dup, 1) := by decide +kernel
theorem dX7_won_14 : decode cX7_won 14 = .ok (.ldc 76, 2) := by decide +kernel
theorem dX7_won_16 : decode cX7_won 16 = .ok (.invokespecial 78, 3) := by decide +kernel
theorem dX7_won_19 : decode cX7_won 19 = .ok (.athrow, 1) := by decide +kernel
theorem dX7_won_20 : decode cX7_won 20 = .ok (.aload_n 0, 1) := by decide +kernel
theorem dX7_won_21 : decode cX7_won 21 = .ok (.invokevirtual 287, 3) := by decide +kernel
theorem dX7_won_24 : decode cX7_won 24 = .ok (.aload_n 2, 1) := by decide +kernel
theorem dX7_won_25 : decode cX7_won 25 = .ok (.getfield 290, 3) := by decide +kernel
theorem dX7_won_28 : decode cX7_won 28 = .ok (.ireturn, 1) := by decide +kernel
theorem dX7_index_0 : decode cX7_index 0 = .ok (.aload_n 0, 1) := by decide +kernel
theorem dX7_index_1 : decode cX7_index 1 = .ok (.iload_n 1, 1) := by decide +kernel
theorem dX7_index_2 : decode cX7_index 2 = .ok (.invokevirtual 70, 3) := by decide +kernel
theorem dX7_index_5 : decode cX7_index 5 = .ok (.astore_n 2, 1) := by decide +kernel
theorem dX7_index_6 : decode cX7_index 6 = .ok (.aload_n 2, 1) := by decide +kernel
theorem dX7_index_7 : decode cX7_index 7 = .ok (.ifnonnull 13, 3) := by decide +kernel
theorem dX7_index_10 : decode cX7_index 10 = .ok (.new 74, 3) := by decide +kernel
theorem dX7_index_13 : decode cX7_index 13 = .ok (.dup, 1) := by decide +kernel
theorem dX7_index_14 : decode cX7_index 14 = .ok (.ldc 76, 2) := by decide +kernel
theorem dX7_index_16 : decode cX7_index 16 = .ok (.invokespecial 78, 3) := by decide +kernel
theorem dX7_index_19 : decode cX7_index 19 = .ok (.athrow, 1) := by decide +kernel
theorem dX7_index_20 : decode cX7_index 20 = .ok (.aload_n 0, 1) := by decide +kernel
theorem dX7_index_21 : decode cX7_index 21 = .ok (.invokevirtual 287, 3) := by decide +kernel
theorem dX7_index_24 : decode cX7_index 24 = .ok (.aload_n 2, 1) := by decide +kernel
theorem dX7_index_25 : decode cX7_index 25 = .ok (.invokevirtual 293, 3) := by decide +kernel
theorem dX7_index_28 : decode cX7_index 28 = .ok (.ireturn, 1) := by decide +kernel
theorem dX7_rankedAt_0 : decode cX7_rankedAt 0 = .ok (.iload_n 1, 1) := by decide +kernel
theorem dX7_rankedAt_1 : decode cX7_rankedAt 1 = .ok (.ifCond .lt 11, 3) := by decide +kernel
theorem dX7_rankedAt_4 : decode cX7_rankedAt 4 = .ok (.iload_n 1, 1) := by decide +kernel
theorem dX7_rankedAt_5 : decode cX7_rankedAt 5 = .ok (.aload_n 0, 1) := by decide +kernel
theorem dX7_rankedAt_6 : decode cX7_rankedAt 6 = .ok (.getfield 52, 3) := by decide +kernel
theorem dX7_rankedAt_9 : decode cX7_rankedAt 9 = .ok (.if_icmp .lt 14, 3) := by decide +kernel
theorem dX7_rankedAt_12 : decode cX7_rankedAt 12 = .ok (.new 74, 3) := by decide +kernel
theorem dX7_rankedAt_15 : decode cX7_rankedAt 15 = .ok (.dup, 1) := by decide +kernel
theorem dX7_rankedAt_16 : decode cX7_rankedAt 16 = .ok (.ldc_w 296, 3) := by decide +kernel
theorem dX7_rankedAt_19 : decode cX7_rankedAt 19 = .ok (.invokespecial 78, 3) := by decide +kernel
theorem dX7_rankedAt_22 : decode cX7_rankedAt 22 = .ok (.athrow, 1) := by decide +kernel
theorem dX7_rankedAt_23 : decode cX7_rankedAt 23 = .ok (.aload_n 0, 1) := by decide +kernel
theorem dX7_rankedAt_24 : decode cX7_rankedAt 24 = .ok (.invokevirtual 287, 3) := by decide +kernel
theorem dX7_rankedAt_27 : decode cX7_rankedAt 27 = .ok (.aload_n 0, 1) := by decide +kernel
theorem dX7_rankedAt_28 : decode cX7_rankedAt 28 = .ok (.iload_n 1, 1) := by decide +kernel
theorem dX7_rankedAt_29 : decode cX7_rankedAt 29 = .ok (.invokevirtual 298, 3) := by decide +kernel
theorem dX7_rankedAt_32 : decode cX7_rankedAt 32 = .ok (.ireturn, 1) := by decide +kernel
theorem dX7_drawTableau_0 : decode cX7_drawTableau 0 = .ok (.aload_n 0, 1) := by decide +kernel
theorem dX7_drawTableau_1 : decode cX7_drawTableau 1 = .ok (.invokevirtual 56, 3) := by decide +kernel
theorem dX7_drawTableau_4 : decode cX7_drawTableau 4 = .ok (.ifCond .eq 10, 3) := by decide +kernel
theorem dX7_drawTableau_7 : decode cX7_drawTableau 7 = .ok (.aload_n 0, 1) := by decide +kernel
theorem dX7_drawTableau_8 : decode cX7_drawTableau 8 = .ok (.invokevirtual 301, 3) := by decide +kernel
theorem dX7_drawTableau_11 : decode cX7_drawTableau 11 = .ok (.ifCond .eq 14, 3) := by decide +kernel
theorem dX7_drawTableau_14 : decode cX7_drawTableau 14 = .ok (.new 60, 3) := by decide +kernel
theorem dX7_drawTableau_17 : decode cX7_drawTableau 17 = .ok (.dup, 1) := by decide +kernel
theorem dX7_drawTableau_18 : decode cX7_drawTableau 18 = .ok (.ldc_w 304, 3) := by decide +kernel
theorem dX7_drawTableau_21 : decode cX7_drawTableau 21 = .ok (.invokespecial 64, 3) := by decide +kernel
theorem dX7_drawTableau_24 : decode cX7_drawTableau 24 = .ok (.athrow, 1) := by decide +kernel
theorem dX7_drawTableau_25 : decode cX7_drawTableau 25 = .ok (.aload_n 0, 1) := by decide +kernel
theorem dX7_drawTableau_26 : decode cX7_drawTableau 26 = .ok (.getfield 37, 3) := by decide +kernel
theorem dX7_drawTableau_29 : decode cX7_drawTableau 29 = .ok (.invokevirtual 306, 3) := by decide +kernel
theorem dX7_drawTableau_32 : decode cX7_drawTableau 32 = .ok (.ifCond .ne 13, 3) := by decide +kernel
theorem dX7_drawTableau_35 : decode cX7_drawTableau 35 = .ok (.aload_n 0, 1) := by decide +kernel
theorem dX7_drawTableau_36 : decode cX7_drawTableau 36 = .ok (.getfield 30, 3) := by decide +kernel
theorem dX7_drawTableau_39 : decode cX7_drawTableau 39 = .ok (.getfield 101, 3) := by decide +kernel
theorem dX7_drawTableau_42 : decode cX7_drawTableau 42 = .ok (.ifnull 14, 3) := by decide +kernel
theorem dX7_drawTableau_45 : decode cX7_drawTableau 45 = .ok (.new 60, 3) := by decide +kernel
theorem dX7_drawTableau_48 : decode cX7_drawTableau 48 = .ok (.dup, 1) := by decide +kernel
theorem dX7_drawTableau_49 : decode cX7_drawTableau 49 = .ok (.ldc_w 309, 3) := by decide +kernel
theorem dX7_drawTableau_52 : decode cX7_drawTableau 52 = .ok (.invokespecial 64, 3) := by decide +kernel
theorem dX7_drawTableau_55 : decode cX7_drawTableau 55 = .ok (.athrow, 1) := by decide +kernel
theorem dX7_drawTableau_56 : decode cX7_drawTableau 56 = .ok (.aload_n 0, 1) := by decide +kernel
theorem dX7_drawTableau_57 : decode cX7_drawTableau 57 = .ok (.getfield 30, 3) := by decide +kernel
theorem dX7_drawTableau_60 : decode cX7_drawTableau 60 = .ok (.invokevirtual 311, 3) := by decide +kernel
theorem dX7_drawTableau_63 : decode cX7_drawTableau 63 = .ok (.aload_n 0, 1) := by decide +kernel
theorem dX7_drawTableau_64 : decode cX7_drawTableau 64 = .ok (.getfield 37, 3) := by decide +kernel
theorem dX7_drawTableau_67 : decode cX7_drawTableau 67 = .ok (.aload_n 0, 1) := by decide +kernel
theorem dX7_drawTableau_68 : decode cX7_drawTableau 68 = .ok (.getfield 52, 3) := by decide +kernel
theorem dX7_drawTableau_71 : decode cX7_drawTableau 71 = .ok (.invokevirtual 314, 3) := by decide +kernel
theorem dX7_drawTableau_74 : decode cX7_drawTableau 74 = .ok (.aload_n 0, 1) := by decide +kernel
theorem dX7_drawTableau_75 : decode cX7_drawTableau 75 = .ok (.invokevirtual 287, 3) := by decide +kernel
theorem dX7_drawTableau_78 : decode cX7_drawTableau 78 = .ok (.iconst 0, 1) := by decide +kernel
theorem dX7_drawTableau_79 : decode cX7_drawTableau 79 = .ok (.istore_n 1, 1) := by decide +kernel
theorem dX7_drawTableau_80 : decode cX7_drawTableau 80 = .ok (.iload_n 1, 1) := by decide +kernel
theorem dX7_drawTableau_81 : decode cX7_drawTableau 81 = .ok (.aload_n 0, 1) := by decide +kernel
theorem dX7_drawTableau_82 : decode cX7_drawTableau 82 = .ok (.getfield 52, 3) := by decide +kernel
theorem dX7_drawTableau_85 : decode cX7_drawTableau 85 = .ok (.if_icmp .ge 24, 3) := by decide +kernel
theorem dX7_drawTableau_88 : decode cX7_drawTableau 88 = .ok (.aload_n 0, 1) := by decide +kernel
theorem dX7_drawTableau_89 : decode cX7_drawTableau 89 = .ok (.getfield 37, 3) := by decide +kernel
theorem dX7_drawTableau_92 : decode cX7_drawTableau 92 = .ok (.iload_n 1, 1) := by decide +kernel
theorem dX7_drawTableau_93 : decode cX7_drawTableau 93 = .ok (.iconst 1, 1) := by decide +kernel
theorem dX7_drawTableau_94 : decode cX7_drawTableau 94 = .ok (.iadd, 1) := by decide +kernel
theorem dX7_drawTableau_95 : decode cX7_drawTableau 95 = .ok (.aload_n 0, 1) := by decide +kernel
theorem dX7_drawTableau_96 : decode cX7_drawTableau 96 = .ok (.iload_n 1, 1) := by decide +kernel
theorem dX7_drawTableau_97 : decode cX7_drawTableau 97 = .ok (.invokevirtual 298, 3) := by decide +kernel
theorem dX7_drawTableau_100 : decode cX7_drawTableau 100 = .ok (.invokevirtual 317, 3) := by decide +kernel
theorem dX7_drawTableau_103 : decode cX7_drawTableau 103 = .ok (.iinc 1 1, 3) := by decide +kernel
theorem dX7_drawTableau_106 : decode cX7_drawTableau 106 = .ok (.goto (-26), 3) := by decide +kernel
theorem dX7_drawTableau_109 : decode cX7_drawTableau 109 = .ok (.aload_n 0, 1) := by decide +kernel
theorem dX7_drawTableau_110 : decode cX7_drawTableau 110 = .ok (.getfield 37, 3) := by decide +kernel
theorem dX7_drawTableau_113 : decode cX7_drawTableau 113 = .ok (.aload_n 0, 1) := by decide +kernel
theorem dX7_drawTableau_114 : decode cX7_drawTableau 114 = .ok (.getfield 30, 3) := by decide +kernel
theorem dX7_drawTableau_117 : decode cX7_drawTableau 117 = .ok (.invokevirtual 219, 3) := by decide +kernel
theorem dX7_drawTableau_120 : decode cX7_drawTableau 120 = .ok (.aload_n 0, 1) := by decide +kernel
theorem dX7_drawTableau_121 : decode cX7_drawTableau 121 = .ok (.getfield 37, 3) := by decide +kernel
theorem dX7_drawTableau_124 : decode cX7_drawTableau 124 = .ok (.getfield 320, 3) := by decide +kernel
theorem dX7_drawTableau_127 : decode cX7_drawTableau 127 = .ok (.ireturn, 1) := by decide +kernel
theorem dX7_size_0 : decode cX7_size 0 = .ok (.aload_n 0, 1) := by decide +kernel
theorem dX7_size_1 : decode cX7_size 1 = .ok (.getfield 37, 3) := by decide +kernel
theorem dX7_size_4 : decode cX7_size 4 = .ok (.getfield 320, 3) := by decide +kernel
theorem dX7_size_7 : decode cX7_size 7 = .ok (.ireturn, 1) := by decide +kernel
theorem dX7_nodeWinner_0 : decode cX7_nodeWinner 0 = .ok (.aload_n 0, 1) := by decide +kernel
theorem dX7_nodeWinner_1 : decode cX7_nodeWinner 1 = .ok (.getfield 37, 3) := by decide +kernel
theorem dX7_nodeWinner_4 : decode cX7_nodeWinner 4 = .ok (.iload_n 1, 1) := by decide +kernel
theorem dX7_nodeWinner_5 : decode cX7_nodeWinner 5 = .ok (.invokevirtual 323, 3) := by decide +kernel
theorem dX7_nodeWinner_8 : decode cX7_nodeWinner 8 = .ok (.ifCond .ne 14, 3) := by decide +kernel
theorem dX7_nodeWinner_11 : decode cX7_nodeWinner 11 = .ok (.new 74, 3) := by decide +kernel
theorem dX7_nodeWinner_14 : decode cX7_nodeWinner 14 = .ok (.dup, 1) := by decide +kernel
theorem dX7_nodeWinner_15 : decode cX7_nodeWinner 15 = .ok (.ldc_w 326, 3) := by decide +kernel
theorem dX7_nodeWinner_18 : decode cX7_nodeWinner 18 = .ok (.invokespecial 78, 3) := by decide +kernel
theorem dX7_nodeWinner_21 : decode cX7_nodeWinner 21 = .ok (.athrow, 1) := by decide +kernel
theorem dX7_nodeWinner_22 : decode cX7_nodeWinner 22 = .ok (.aload_n 0, 1) := by decide +kernel
theorem dX7_nodeWinner_23 : decode cX7_nodeWinner 23 = .ok (.getfield 37, 3) := by decide +kernel
theorem dX7_nodeWinner_26 : decode cX7_nodeWinner 26 = .ok (.iload_n 1, 1) := by decide +kernel
theorem dX7_nodeWinner_27 : decode cX7_nodeWinner 27 = .ok (.invokevirtual 272, 3) := by decide +kernel
theorem dX7_nodeWinner_30 : decode cX7_nodeWinner 30 = .ok (.ireturn, 1) := by decide +kernel
theorem dX7_gone_0 : decode cX7_gone 0 = .ok (.aload_n 0, 1) := by decide +kernel
theorem dX7_gone_1 : decode cX7_gone 1 = .ok (.getfield 37, 3) := by decide +kernel
theorem dX7_gone_4 : decode cX7_gone 4 = .ok (.getfield 328, 3) := by decide +kernel
theorem dX7_gone_7 : decode cX7_gone 7 = .ok (.ireturn, 1) := by decide +kernel
theorem dX7_isSide_0 : decode cX7_isSide 0 = .ok (.iload_n 0, 1) := by decide +kernel
theorem dX7_isSide_1 : decode cX7_isSide 1 = .ok (.ifCond .eq 8, 3) := by decide +kernel
theorem dX7_isSide_4 : decode cX7_isSide 4 = .ok (.iload_n 0, 1) := by decide +kernel
theorem dX7_isSide_5 : decode cX7_isSide 5 = .ok (.iconst 1, 1) := by decide +kernel
theorem dX7_isSide_6 : decode cX7_isSide 6 = .ok (.if_icmp .ne 7, 3) := by decide +kernel
theorem dX7_isSide_9 : decode cX7_isSide 9 = .ok (.iconst 1, 1) := by decide +kernel
theorem dX7_isSide_10 : decode cX7_isSide 10 = .ok (.goto 4, 3) := by decide +kernel
theorem dX7_isSide_13 : decode cX7_isSide 13 = .ok (.iconst 0, 1) := by decide +kernel
theorem dX7_isSide_14 : decode cX7_isSide 14 = .ok (.ireturn, 1) := by decide +kernel
theorem dX7_isSideOrNone_0 : decode cX7_isSideOrNone 0 = .ok (.iload_n 0, 1) := by decide +kernel
theorem dX7_isSideOrNone_1 : decode cX7_isSideOrNone 1 = .ok (.iconst (-1), 1) := by decide +kernel
theorem dX7_isSideOrNone_2 : decode cX7_isSideOrNone 2 = .ok (.if_icmp .eq 10, 3) := by decide +kernel
theorem dX7_isSideOrNone_5 : decode cX7_isSideOrNone 5 = .ok (.iload_n 0, 1) := by decide +kernel
theorem dX7_isSideOrNone_6 : decode cX7_isSideOrNone 6 = .ok (.invokestatic 144, 3) := by decide +kernel
theorem dX7_isSideOrNone_9 : decode cX7_isSideOrNone 9 = .ok (.ifCond .eq 7, 3) := by decide +kernel
theorem dX7_isSideOrNone_12 : decode cX7_isSideOrNone 12 = .ok (.iconst 1, 1) := by decide +kernel
theorem dX7_isSideOrNone_13 : decode cX7_isSideOrNone 13 = .ok (.goto 4, 3) := by decide +kernel
theorem dX7_isSideOrNone_16 : decode cX7_isSideOrNone 16 = .ok (.iconst 0, 1) := by decide +kernel
theorem dX7_isSideOrNone_17 : decode cX7_isSideOrNone 17 = .ok (.ireturn, 1) := by decide +kernel
theorem dX7_isTooEarly_0 : decode cX7_isTooEarly 0 = .ok (.aload_n 0, 1) := by decide +kernel
theorem dX7_isTooEarly_1 : decode cX7_isTooEarly 1 = .ok (.getfield 30, 3) := by decide +kernel
theorem dX7_isTooEarly_4 : decode cX7_isTooEarly 4 = .ok (.getfield 101, 3) := by decide +kernel
theorem dX7_isTooEarly_7 : decode cX7_isTooEarly 7 = .ok (.astore_n 2, 1) := by decide +kernel
theorem dX7_isTooEarly_8 : decode cX7_isTooEarly 8 = .ok (.iload_n 1, 1) := by decide +kernel
theorem dX7_isTooEarly_9 : decode cX7_isTooEarly 9 = .ok (.ifCond .lt 15, 3) := by decide +kernel
theorem dX7_isTooEarly_12 : decode cX7_isTooEarly 12 = .ok (.aload_n 2, 1) := by decide +kernel
theorem dX7_isTooEarly_13 : decode cX7_isTooEarly 13 = .ok (.ifnull 15, 3) := by decide +kernel
theorem dX7_isTooEarly_16 : decode cX7_isTooEarly 16 = .ok (.iload_n 1, 1) := by decide +kernel
theorem dX7_isTooEarly_17 : decode cX7_isTooEarly 17 = .ok (.aload_n 2, 1) := by decide +kernel
theorem dX7_isTooEarly_18 : decode cX7_isTooEarly 18 = .ok (.invokevirtual 331, 3) := by decide +kernel
theorem dX7_isTooEarly_21 : decode cX7_isTooEarly 21 = .ok (.if_icmp .ge 7, 3) := by decide +kernel
theorem dX7_isTooEarly_24 : decode cX7_isTooEarly 24 = .ok (.iconst 1, 1) := by decide +kernel
theorem dX7_isTooEarly_25 : decode cX7_isTooEarly 25 = .ok (.goto 4, 3) := by decide +kernel
theorem dX7_isTooEarly_28 : decode cX7_isTooEarly 28 = .ok (.iconst 0, 1) := by decide +kernel
theorem dX7_isTooEarly_29 : decode cX7_isTooEarly 29 = .ok (.ireturn, 1) := by decide +kernel
theorem dX7_arePoolsDrawn_0 : decode cX7_arePoolsDrawn 0 = .ok (.aload_n 0, 1) := by decide +kernel
theorem dX7_arePoolsDrawn_1 : decode cX7_arePoolsDrawn 1 = .ok (.getfield 284, 3) := by decide +kernel
theorem dX7_arePoolsDrawn_4 : decode cX7_arePoolsDrawn 4 = .ok (.ifCond .le 7, 3) := by decide +kernel
theorem dX7_arePoolsDrawn_7 : decode cX7_arePoolsDrawn 7 = .ok (.iconst 1, 1) := by decide +kernel
theorem dX7_arePoolsDrawn_8 : decode cX7_arePoolsDrawn 8 = .ok (.goto 4, 3) := by decide +kernel
theorem dX7_arePoolsDrawn_11 : decode cX7_arePoolsDrawn 11 = .ok (.iconst 0, 1) := by decide +kernel
theorem dX7_arePoolsDrawn_12 : decode cX7_arePoolsDrawn 12 = .ok (.ireturn, 1) := by decide +kernel
theorem dX7_fencerAt_0 : decode cX7_fencerAt 0 = .ok (.iload_n 1, 1) := by decide +kernel
theorem dX7_fencerAt_1 : decode cX7_fencerAt 1 = .ok (.ifCond .lt 20, 3) := by decide +kernel
theorem dX7_fencerAt_4 : decode cX7_fencerAt 4 = .ok (.iload_n 1, 1) := by decide +kernel
theorem dX7_fencerAt_5 : decode cX7_fencerAt 5 = .ok (.aload_n 0, 1) := by decide +kernel
theorem dX7_fencerAt_6 : decode cX7_fencerAt 6 = .ok (.getfield 52, 3) := by decide +kernel
theorem dX7_fencerAt_9 : decode cX7_fencerAt 9 = .ok (.if_icmp .ge 12, 3) := by decide +kernel
theorem dX7_fencerAt_12 : decode cX7_fencerAt 12 = .ok (.aload_n 0, 1) := by decide +kernel
theorem dX7_fencerAt_13 : decode cX7_fencerAt 13 = .ok (.getfield 11, 3) := by decide +kernel
theorem dX7_fencerAt_16 : decode cX7_fencerAt 16 = .ok (.iload_n 1, 1) := by decide +kernel
theorem dX7_fencerAt_17 : decode cX7_fencerAt 17 = .ok (.aaload, 1) := by decide +kernel
theorem dX7_fencerAt_18 : decode cX7_fencerAt 18 = .ok (.goto 4, 3) := by decide +kernel
theorem dX7_fencerAt_21 : decode cX7_fencerAt 21 = .ok (.aconst_null, 1) := by decide +kernel
theorem dX7_fencerAt_22 : decode cX7_fencerAt 22 = .ok (.areturn, 1) := by decide +kernel
theorem dX7_weaponAt_0 : decode cX7_weaponAt 0 = .ok (.iload_n 1, 1) := by decide +kernel
theorem dX7_weaponAt_1 : decode cX7_weaponAt 1 = .ok (.ifCond .lt 20, 3) := by decide +kernel
theorem dX7_weaponAt_4 : decode cX7_weaponAt 4 = .ok (.iload_n 1, 1) := by decide +kernel
theorem dX7_weaponAt_5 : decode cX7_weaponAt 5 = .ok (.aload_n 0, 1) := by decide +kernel
theorem dX7_weaponAt_6 : decode cX7_weaponAt 6 = .ok (.getfield 79, 3) := by decide +kernel
theorem dX7_weaponAt_9 : decode cX7_weaponAt 9 = .ok (.if_icmp .ge 12, 3) := by decide +kernel
theorem dX7_weaponAt_12 : decode cX7_weaponAt 12 = .ok (.aload_n 0, 1) := by decide +kernel
theorem dX7_weaponAt_13 : decode cX7_weaponAt 13 = .ok (.getfield 17, 3) := by decide +kernel
theorem dX7_weaponAt_16 : decode cX7_weaponAt 16 = .ok (.iload_n 1, 1) := by decide +kernel
theorem dX7_weaponAt_17 : decode cX7_weaponAt 17 = .ok (.aaload, 1) := by decide +kernel
theorem dX7_weaponAt_18 : decode cX7_weaponAt 18 = .ok (.goto 4, 3) := by decide +kernel
theorem dX7_weaponAt_21 : decode cX7_weaponAt 21 = .ok (.aconst_null, 1) := by decide +kernel
theorem dX7_weaponAt_22 : decode cX7_weaponAt 22 = .ok (.areturn, 1) := by decide +kernel
theorem dX7_boutAt_0 : decode cX7_boutAt 0 = .ok (.iload_n 1, 1) := by decide +kernel
theorem dX7_boutAt_1 : decode cX7_boutAt 1 = .ok (.ifCond .lt 18, 3) := by decide +kernel
theorem dX7_boutAt_4 : decode cX7_boutAt 4 = .ok (.iload_n 1, 1) := by decide +kernel
theorem dX7_boutAt_5 : decode cX7_boutAt 5 = .ok (.aload_n 0, 1) := by decide +kernel
theorem dX7_boutAt_6 : decode cX7_boutAt 6 = .ok (.getfield 284, 3) := by decide +kernel
theorem dX7_boutAt_9 : decode cX7_boutAt 9 = .ok (.if_icmp .ge 10, 3) := by decide +kernel
theorem dX7_boutAt_12 : decode cX7_boutAt 12 = .ok (.aload_n 0, 1) := by decide +kernel
theorem dX7_boutAt_13 : decode cX7_boutAt 13 = .ok (.getfield 23, 3) := by decide +kernel
theorem dX7_boutAt_16 : decode cX7_boutAt 16 = .ok (.iload_n 1, 1) := by decide +kernel
theorem dX7_boutAt_17 : decode cX7_boutAt 17 = .ok (.aaload, 1) := by decide +kernel
theorem dX7_boutAt_18 : decode cX7_boutAt 18 = .ok (.areturn, 1) := by decide +kernel
theorem dX7_boutAt_19 : decode cX7_boutAt 19 = .ok (.iload_n 1, 1) := by decide +kernel
theorem dX7_boutAt_20 : decode cX7_boutAt 20 = .ok (.bipush 100, 2) := by decide +kernel
theorem dX7_boutAt_22 : decode cX7_boutAt 22 = .ok (.if_icmp .le 17, 3) := by decide +kernel
theorem dX7_boutAt_25 : decode cX7_boutAt 25 = .ok (.aload_n 0, 1) := by decide +kernel
theorem dX7_boutAt_26 : decode cX7_boutAt 26 = .ok (.getfield 37, 3) := by decide +kernel
theorem dX7_boutAt_29 : decode cX7_boutAt 29 = .ok (.iload_n 1, 1) := by decide +kernel
theorem dX7_boutAt_30 : decode cX7_boutAt 30 = .ok (.bipush 100, 2) := by decide +kernel
theorem dX7_boutAt_32 : decode cX7_boutAt 32 = .ok (.isub, 1) := by decide +kernel
theorem dX7_boutAt_33 : decode cX7_boutAt 33 = .ok (.invokevirtual 334, 3) := by decide +kernel
theorem dX7_boutAt_36 : decode cX7_boutAt 36 = .ok (.goto 4, 3) := by decide +kernel
theorem dX7_boutAt_39 : decode cX7_boutAt 39 = .ok (.aconst_null, 1) := by decide +kernel
theorem dX7_boutAt_40 : decode cX7_boutAt 40 = .ok (.areturn, 1) := by decide +kernel
theorem dX7_fail_0 : decode cX7_fail 0 = .ok (.aload_n 1, 1) := by decide +kernel
theorem dX7_fail_1 : decode cX7_fail 1 = .ok (.iconst 2, 1) := by decide +kernel
theorem dX7_fail_2 : decode cX7_fail 2 = .ok (.putfield 98, 3) := by decide +kernel
theorem dX7_fail_5 : decode cX7_fail 5 = .ok (.aload_n 1, 1) := by decide +kernel
theorem dX7_fail_6 : decode cX7_fail 6 = .ok (.aload_n 0, 1) := by decide +kernel
theorem dX7_fail_7 : decode cX7_fail 7 = .ok (.getfield 37, 3) := by decide +kernel
theorem dX7_fail_10 : decode cX7_fail 10 = .ok (.invokevirtual 306, 3) := by decide +kernel
theorem dX7_fail_13 : decode cX7_fail 13 = .ok (.ifCond .ne 7, 3) := by decide +kernel
theorem dX7_fail_16 : decode cX7_fail 16 = .ok (.iconst 1, 1) := by decide +kernel
theorem dX7_fail_17 : decode cX7_fail 17 = .ok (.goto 4, 3) := by decide +kernel
theorem dX7_fail_20 : decode cX7_fail 20 = .ok (.iconst 0, 1) := by decide +kernel
theorem dX7_fail_21 : decode cX7_fail 21 = .ok (.putfield 335, 3) := by decide +kernel
theorem dX7_fail_24 : decode cX7_fail 24 = .ok (.iconst 0, 1) := by decide +kernel
theorem dX7_fail_25 : decode cX7_fail 25 = .ok (.istore_n 2, 1) := by decide +kernel
theorem dX7_fail_26 : decode cX7_fail 26 = .ok (.iload_n 2, 1) := by decide +kernel
theorem dX7_fail_27 : decode cX7_fail 27 = .ok (.aload_n 0, 1) := by decide +kernel
theorem dX7_fail_28 : decode cX7_fail 28 = .ok (.getfield 284, 3) := by decide +kernel
theorem dX7_fail_31 : decode cX7_fail 31 = .ok (.if_icmp .ge 24, 3) := by decide +kernel
theorem dX7_fail_34 : decode cX7_fail 34 = .ok (.aload_n 0, 1) := by decide +kernel
theorem dX7_fail_35 : decode cX7_fail 35 = .ok (.getfield 23, 3) := by decide +kernel
theorem dX7_fail_38 : decode cX7_fail 38 = .ok (.iload_n 2, 1) := by decide +kernel
theorem dX7_fail_39 : decode cX7_fail 39 = .ok (.aaload, 1) := by decide +kernel
theorem dX7_fail_40 : decode cX7_fail 40 = .ok (.astore_n 3, 1) := by decide +kernel
theorem dX7_fail_41 : decode cX7_fail 41 = .ok (.aload_n 3, 1) := by decide +kernel
theorem dX7_fail_42 : decode cX7_fail 42 = .ok (.ifnull 7, 3) := by decide +kernel
theorem dX7_fail_45 : decode cX7_fail 45 = .ok (.aload_n 3, 1) := by decide +kernel
theorem dX7_fail_46 : decode cX7_fail 46 = .ok (.invokevirtual 246, 3) := by decide +kernel
theorem dX7_fail_49 : decode cX7_fail 49 = .ok (.iinc 2 1, 3) := by decide +kernel
theorem dX7_fail_52 : decode cX7_fail 52 = .ok (.goto (-26), 3) := by decide +kernel
theorem dX7_fail_55 : decode cX7_fail 55 = .ok (.aload_n 0, 1) := by decide +kernel
theorem dX7_fail_56 : decode cX7_fail 56 = .ok (.getfield 37, 3) := by decide +kernel
theorem dX7_fail_59 : decode cX7_fail 59 = .ok (.invokevirtual 338, 3) := by decide +kernel
theorem dX7_fail_62 : decode cX7_fail 62 = .ok (.aload_n 0, 1) := by decide +kernel
theorem dX7_fail_63 : decode cX7_fail 63 = .ok (.getfield 37, 3) := by decide +kernel
theorem dX7_fail_66 : decode cX7_fail 66 = .ok (.aload_n 0, 1) := by decide +kernel
theorem dX7_fail_67 : decode cX7_fail 67 = .ok (.getfield 30, 3) := by decide +kernel
theorem dX7_fail_70 : decode cX7_fail 70 = .ok (.invokevirtual 219, 3) := by decide +kernel
theorem dX7_fail_73 : decode cX7_fail 73 = .ok (.return_, 1) := by decide +kernel
theorem dX7_drawPool_0 : decode cX7_drawPool 0 = .ok (.iconst 0, 1) := by decide +kernel
theorem dX7_drawPool_1 : decode cX7_drawPool 1 = .ok (.istore_n 3, 1) := by decide +kernel
theorem dX7_drawPool_2 : decode cX7_drawPool 2 = .ok (.iload_n 3, 1) := by decide +kernel
theorem dX7_drawPool_3 : decode cX7_drawPool 3 = .ok (.aload_n 0, 1) := by decide +kernel
theorem dX7_drawPool_4 : decode cX7_drawPool 4 = .ok (.getfield 52, 3) := by decide +kernel
theorem dX7_drawPool_7 : decode cX7_drawPool 7 = .ok (.if_icmp .ge 55, 3) := by decide +kernel
theorem dX7_drawPool_10 : decode cX7_drawPool 10 = .ok (.iload_n 3, 1) := by decide +kernel
theorem dX7_drawPool_11 : decode cX7_drawPool 11 = .ok (.iconst 1, 1) := by decide +kernel
theorem dX7_drawPool_12 : decode cX7_drawPool 12 = .ok (.iadd, 1) := by decide +kernel
theorem dX7_drawPool_13 : decode cX7_drawPool 13 = .ok (.istore 4, 2) := by decide +kernel
theorem dX7_drawPool_15 : decode cX7_drawPool 15 = .ok (.iload 4, 2) := by decide +kernel
theorem dX7_drawPool_17 : decode cX7_drawPool 17 = .ok (.aload_n 0, 1) := by decide +kernel
theorem dX7_drawPool_18 : decode cX7_drawPool 18 = .ok (.getfield 52, 3) := by decide +kernel
theorem dX7_drawPool_21 : decode cX7_drawPool 21 = .ok (.if_icmp .ge 35, 3) := by decide +kernel
theorem dX7_drawPool_24 : decode cX7_drawPool 24 = .ok (.iload_n 3, 1) := by decide +kernel
theorem dX7_drawPool_25 : decode cX7_drawPool 25 = .ok (.iload_n 2, 1) := by decide +kernel
theorem dX7_drawPool_26 : decode cX7_drawPool 26 = .ok (.invokestatic 339, 3) := by decide +kernel
theorem dX7_drawPool_29 : decode cX7_drawPool 29 = .ok (.iload_n 1, 1) := by decide +kernel
theorem dX7_drawPool_30 : decode cX7_drawPool 30 = .ok (.if_icmp .ne 20, 3) := by decide +kernel
theorem dX7_drawPool_33 : decode cX7_drawPool 33 = .ok (.iload 4, 2) := by decide +kernel
theorem dX7_drawPool_35 : decode cX7_drawPool 35 = .ok (.iload_n 2, 1) := by decide +kernel
theorem dX7_drawPool_36 : decode cX7_drawPool 36 = .ok (.invokestatic 339, 3) := by decide +kernel
theorem dX7_drawPool_39 : decode cX7_drawPool 39 = .ok (.iload_n 1, 1) := by decide +kernel
theorem dX7_drawPool_40 : decode cX7_drawPool 40 = .ok (.if_icmp .ne 10, 3) := by decide +kernel
theorem dX7_drawPool_43 : decode cX7_drawPool 43 = .ok (.aload_n 0, 1) := by decide +kernel
theorem dX7_drawPool_44 : decode cX7_drawPool 44 = .ok (.iload_n 3, 1) := by decide +kernel
theorem dX7_drawPool_45 : decode cX7_drawPool 45 = .ok (.iload 4, 2) := by decide +kernel
theorem dX7_drawPool_47 : decode cX7_drawPool 47 = .ok (.invokevirtual 343, 3) := by decide +kernel
theorem dX7_drawPool_50 : decode cX7_drawPool 50 = .ok (.iinc 4 1, 3) := by decide +kernel
theorem dX7_drawPool_53 : decode cX7_drawPool 53 = .ok (.goto (-38), 3) := by decide +kernel
theorem dX7_drawPool_56 : decode cX7_drawPool 56 = .ok (.iinc 3 1, 3) := by decide +kernel
theorem dX7_drawPool_59 : decode cX7_drawPool 59 = .ok (.goto (-57), 3) := by decide +kernel
theorem dX7_drawPool_62 : decode cX7_drawPool 62 = .ok (.return_, 1) := by decide +kernel
theorem dX7_poolOf_0 : decode cX7_poolOf 0 = .ok (.iload_n 1, 1) := by decide +kernel
theorem dX7_poolOf_1 : decode cX7_poolOf 1 = .ok (.ifCond .le 9, 3) := by decide +kernel
theorem dX7_poolOf_4 : decode cX7_poolOf 4 = .ok (.iload_n 0, 1) := by decide +kernel
theorem dX7_poolOf_5 : decode cX7_poolOf 5 = .ok (.iload_n 1, 1) := by decide +kernel
theorem dX7_poolOf_6 : decode cX7_poolOf 6 = .ok (.irem, 1) := by decide +kernel
theorem dX7_poolOf_7 : decode cX7_poolOf 7 = .ok (.goto 4, 3) := by decide +kernel
theorem dX7_poolOf_10 : decode cX7_poolOf 10 = .ok (.iconst (-1), 1) := by decide +kernel
theorem dX7_poolOf_11 : decode cX7_poolOf 11 = .ok (.ireturn, 1) := by decide +kernel
theorem dX7_addPoolBout_0 : decode cX7_addPoolBout 0 = .ok (.aload_n 0, 1) := by decide +kernel
theorem dX7_addPoolBout_1 : decode cX7_addPoolBout 1 = .ok (.getfield 284, 3) := by decide +kernel
theorem dX7_addPoolBout_4 : decode cX7_addPoolBout 4 = .ok (.bipush 66, 2) := by decide +kernel
theorem dX7_addPoolBout_6 : decode cX7_addPoolBout 6 = .ok (.if_icmp .ge 32, 3) := by decide +kernel
theorem dX7_addPoolBout_9 : decode cX7_addPoolBout 9 = .ok (.aload_n 0, 1) := by decide +kernel
theorem dX7_addPoolBout_10 : decode cX7_addPoolBout 10 = .ok (.getfield 23, 3) := by decide +kernel
theorem dX7_addPoolBout_13 : decode cX7_addPoolBout 13 = .ok (.aload_n 0, 1) := by decide +kernel
theorem dX7_addPoolBout_14 : decode cX7_addPoolBout 14 = .ok (.getfield 284, 3) := by decide +kernel
theorem dX7_addPoolBout_17 : decode cX7_addPoolBout 17 = .ok (.new 21, 3) := by decide +kernel
theorem dX7_addPoolBout_20 : decode cX7_addPoolBout 20 = .ok (.dup, 1) := by decide +kernel
theorem dX7_addPoolBout_21 : decode cX7_addPoolBout 21 = .ok (.iconst 1, 1) := by decide +kernel
theorem dX7_addPoolBout_22 : decode cX7_addPoolBout 22 = .ok (.iload_n 1, 1) := by decide +kernel
theorem dX7_addPoolBout_23 : decode cX7_addPoolBout 23 = .ok (.iload_n 2, 1) := by decide +kernel
theorem dX7_addPoolBout_24 : decode cX7_addPoolBout 24 = .ok (.invokespecial 346, 3) := by decide +kernel
theorem dX7_addPoolBout_27 : decode cX7_addPoolBout 27 = .ok (.aastore, 1) := by decide +kernel
theorem dX7_addPoolBout_28 : decode cX7_addPoolBout 28 = .ok (.aload_n 0, 1) := by decide +kernel
theorem dX7_addPoolBout_29 : decode cX7_addPoolBout 29 = .ok (.dup, 1) := by decide +kernel
theorem dX7_addPoolBout_30 : decode cX7_addPoolBout 30 = .ok (.getfield 284, 3) := by decide +kernel
theorem dX7_addPoolBout_33 : decode cX7_addPoolBout 33 = .ok (.iconst 1, 1) := by decide +kernel
theorem dX7_addPoolBout_34 : decode cX7_addPoolBout 34 = .ok (.iadd, 1) := by decide +kernel
theorem dX7_addPoolBout_35 : decode cX7_addPoolBout 35 = .ok (.putfield 284, 3) := by decide +kernel
theorem dX7_addPoolBout_38 : decode cX7_addPoolBout 38 = .ok (.return_, 1) := by decide +kernel
theorem dX7_isAPoolBoutOpen_0 : decode cX7_isAPoolBoutOpen 0 = .ok (.iconst 0, 1) := by decide +kernel
theorem dX7_isAPoolBoutOpen_1 : decode cX7_isAPoolBoutOpen 1 = .ok (.istore_n 1, 1) := by decide +kernel
theorem dX7_isAPoolBoutOpen_2 : decode cX7_isAPoolBoutOpen 2 = .ok (.iload_n 1, 1) := by decide +kernel
theorem dX7_isAPoolBoutOpen_3 : decode cX7_isAPoolBoutOpen 3 = .ok (.aload_n 0, 1) := by decide +kernel
theorem dX7_isAPoolBoutOpen_4 : decode cX7_isAPoolBoutOpen 4 = .ok (.getfield 284, 3) := by decide +kernel
theorem dX7_isAPoolBoutOpen_7 : decode cX7_isAPoolBoutOpen 7 = .ok (.if_icmp .ge 30, 3) := by decide +kernel
theorem dX7_isAPoolBoutOpen_10 : decode cX7_isAPoolBoutOpen 10 = .ok (.aload_n 0, 1) := by decide +kernel
theorem dX7_isAPoolBoutOpen_11 : decode cX7_isAPoolBoutOpen 11 = .ok (.getfield 23, 3) := by decide +kernel
theorem dX7_isAPoolBoutOpen_14 : decode cX7_isAPoolBoutOpen 14 = .ok (.iload_n 1, 1) := by decide +kernel
theorem dX7_isAPoolBoutOpen_15 : decode cX7_isAPoolBoutOpen 15 = .ok (.aaload, 1) := by decide +kernel
theorem dX7_isAPoolBoutOpen_16 : decode cX7_isAPoolBoutOpen 16 = .ok (.astore_n 2, 1) := by decide +kernel
theorem dX7_isAPoolBoutOpen_17 : decode cX7_isAPoolBoutOpen 17 = .ok (.aload_n 2, 1) := by decide +kernel
theorem dX7_isAPoolBoutOpen_18 : decode cX7_isAPoolBoutOpen 18 = .ok (.ifnull 13, 3) := by decide +kernel
theorem dX7_isAPoolBoutOpen_21 : decode cX7_isAPoolBoutOpen 21 = .ok (.aload_n 2, 1) := by decide +kernel
theorem dX7_isAPoolBoutOpen_22 : decode cX7_isAPoolBoutOpen 22 = .ok (.invokevirtual 349, 3) := by decide +kernel
theorem dX7_isAPoolBoutOpen_25 : decode cX7_isAPoolBoutOpen 25 = .ok (.iconst (-1), 1) := by decide +kernel
theorem dX7_isAPoolBoutOpen_26 : decode cX7_isAPoolBoutOpen 26 = .ok (.if_icmp .ne 5, 3) := by decide +kernel
theorem dX7_isAPoolBoutOpen_29 : decode cX7_isAPoolBoutOpen 29 = .ok (.iconst 1, 1) := by decide +kernel
theorem dX7_isAPoolBoutOpen_30 : decode cX7_isAPoolBoutOpen 30 = .ok (.ireturn, 1) := by decide +kernel
theorem dX7_isAPoolBoutOpen_31 : decode cX7_isAPoolBoutOpen 31 = .ok (.iinc 1 1, 3) := by decide +kernel
theorem dX7_isAPoolBoutOpen_34 : decode cX7_isAPoolBoutOpen 34 = .ok (.goto (-32), 3) := by decide +kernel
theorem dX7_isAPoolBoutOpen_37 : decode cX7_isAPoolBoutOpen 37 = .ok (.iconst 0, 1) := by decide +kernel
theorem dX7_isAPoolBoutOpen_38 : decode cX7_isAPoolBoutOpen 38 = .ok (.ireturn, 1) := by decide +kernel
theorem dX7_countPools_0 : decode cX7_countPools 0 = .ok (.iconst 0, 1) := by decide +kernel
theorem dX7_countPools_1 : decode cX7_countPools 1 = .ok (.istore_n 1, 1) := by decide +kernel
theorem dX7_countPools_2 : decode cX7_countPools 2 = .ok (.iload_n 1, 1) := by decide +kernel
theorem dX7_countPools_3 : decode cX7_countPools 3 = .ok (.aload_n 0, 1) := by decide +kernel
theorem dX7_countPools_4 : decode cX7_countPools 4 = .ok (.getfield 52, 3) := by decide +kernel
theorem dX7_countPools_7 : decode cX7_countPools 7 = .ok (.if_icmp .ge 23, 3) := by decide +kernel
theorem dX7_countPools_10 : decode cX7_countPools 10 = .ok (.aload_n 0, 1) := by decide +kernel
theorem dX7_countPools_11 : decode cX7_countPools 11 = .ok (.iload_n 1, 1) := by decide +kernel
theorem dX7_countPools_12 : decode cX7_countPools 12 = .ok (.invokevirtual 70, 3) := by decide +kernel
theorem dX7_countPools_15 : decode cX7_countPools 15 = .ok (.astore_n 2, 1) := by decide +kernel
theorem dX7_countPools_16 : decode cX7_countPools 16 = .ok (.aload_n 2, 1) := by decide +kernel
theorem dX7_countPools_17 : decode cX7_countPools 17 = .ok (.ifnull 7, 3) := by decide +kernel
theorem dX7_countPools_20 : decode cX7_countPools 20 = .ok (.aload_n 2, 1) := by decide +kernel
theorem dX7_countPools_21 : decode cX7_countPools 21 = .ok (.invokevirtual 352, 3) := by decide +kernel
theorem dX7_countPools_24 : decode cX7_countPools 24 = .ok (.iinc 1 1, 3) := by decide +kernel
theorem dX7_countPools_27 : decode cX7_countPools 27 = .ok (.goto (-25), 3) := by decide +kernel
theorem dX7_countPools_30 : decode cX7_countPools 30 = .ok (.iconst 0, 1) := by decide +kernel
theorem dX7_countPools_31 : decode cX7_countPools 31 = .ok (.istore_n 1, 1) := by decide +kernel
theorem dX7_countPools_32 : decode cX7_countPools 32 = .ok (.iload_n 1, 1) := by decide +kernel
theorem dX7_countPools_33 : decode cX7_countPools 33 = .ok (.aload_n 0, 1) := by decide +kernel
theorem dX7_countPools_34 : decode cX7_countPools 34 = .ok (.getfield 284, 3) := by decide +kernel
theorem dX7_countPools_37 : decode cX7_countPools 37 = .ok (.if_icmp .ge 40, 3) := by decide +kernel
theorem dX7_countPools_40 : decode cX7_countPools 40 = .ok (.aload_n 0, 1) := by decide +kernel
theorem dX7_countPools_41 : decode cX7_countPools 41 = .ok (.getfield 23, 3) := by decide +kernel
theorem dX7_countPools_44 : decode cX7_countPools 44 = .ok (.iload_n 1, 1) := by decide +kernel
theorem dX7_countPools_45 : decode cX7_countPools 45 = .ok (.aaload, 1) := by decide +kernel
theorem dX7_countPools_46 : decode cX7_countPools 46 = .ok (.astore_n 2, 1) := by decide +kernel
theorem dX7_countPools_47 : decode cX7_countPools 47 = .ok (.aload_n 2, 1) := by decide +kernel
theorem dX7_countPools_48 : decode cX7_countPools 48 = .ok (.ifnull 23, 3) := by decide +kernel
theorem dX7_countPools_51 : decode cX7_countPools 51 = .ok (.aload_n 2, 1) := by decide +kernel
theorem dX7_countPools_52 : decode cX7_countPools 52 = .ok (.invokevirtual 349, 3) := by decide +kernel
theorem dX7_countPools_55 : decode cX7_countPools 55 = .ok (.iconst (-1), 1) := by decide +kernel
theorem dX7_countPools_56 : decode cX7_countPools 56 = .ok (.if_icmp .eq 15, 3) := by decide +kernel
theorem dX7_countPools_59 : decode cX7_countPools 59 = .ok (.aload_n 0, 1) := by decide +kernel
theorem dX7_countPools_60 : decode cX7_countPools 60 = .ok (.aload_n 2, 1) := by decide +kernel
theorem dX7_countPools_61 : decode cX7_countPools 61 = .ok (.iconst 0, 1) := by decide +kernel
theorem dX7_countPools_62 : decode cX7_countPools 62 = .ok (.invokevirtual 355, 3) := by decide +kernel
theorem dX7_countPools_65 : decode cX7_countPools 65 = .ok (.aload_n 0, 1) := by decide +kernel
theorem dX7_countPools_66 : decode cX7_countPools 66 = .ok (.aload_n 2, 1) := by decide +kernel
theorem dX7_countPools_67 : decode cX7_countPools 67 = .ok (.iconst 1, 1) := by decide +kernel
theorem dX7_countPools_68 : decode cX7_countPools 68 = .ok (.invokevirtual 355, 3) := by decide +kernel
theorem dX7_countPools_71 : decode cX7_countPools 71 = .ok (.iinc 1 1, 3) := by decide +kernel
theorem dX7_countPools_74 : decode cX7_countPools 74 = .ok (.goto (-42), 3) := by decide +kernel
theorem dX7_countPools_77 : decode cX7_countPools 77 = .ok (.return_, 1) := by decide +kernel
theorem dX7_countSide_0 : decode cX7_countSide 0 = .ok (.aload_n 0, 1) := by decide +kernel
theorem dX7_countSide_1 : decode cX7_countSide 1 = .ok (.aload_n 1, 1) := by decide +kernel
theorem dX7_countSide_2 : decode cX7_countSide 2 = .ok (.iload_n 2, 1) := by decide +kernel
theorem dX7_countSide_3 : decode cX7_countSide 3 = .ok (.invokevirtual 155, 3) := by decide +kernel
theorem dX7_countSide_6 : decode cX7_countSide 6 = .ok (.invokevirtual 70, 3) := by decide +kernel
theorem dX7_countSide_9 : decode cX7_countSide 9 = .ok (.astore_n 3, 1) := by decide +kernel
theorem dX7_countSide_10 : decode cX7_countSide 10 = .ok (.aload_n 3, 1) := by decide +kernel
theorem dX7_countSide_11 : decode cX7_countSide 11 = .ok (.ifnull 38, 3) := by decide +kernel
theorem dX7_countSide_14 : decode cX7_countSide 14 = .ok (.aload_n 3, 1) := by decide +kernel
theorem dX7_countSide_15 : decode cX7_countSide 15 = .ok (.aload_n 1, 1) := by decide +kernel
theorem dX7_countSide_16 : decode cX7_countSide 16 = .ok (.getfield 254, 3) := by decide +kernel
theorem dX7_countSide_19 : decode cX7_countSide 19 = .ok (.iload_n 2, 1) := by decide +kernel
theorem dX7_countSide_20 : decode cX7_countSide 20 = .ok (.invokevirtual 257, 3) := by decide +kernel
theorem dX7_countSide_23 : decode cX7_countSide 23 = .ok (.aload_n 1, 1) := by decide +kernel
theorem dX7_countSide_24 : decode cX7_countSide 24 = .ok (.getfield 254, 3) := by decide +kernel
theorem dX7_countSide_27 : decode cX7_countSide 27 = .ok (.iconst 1, 1) := by decide +kernel
theorem dX7_countSide_28 : decode cX7_countSide 28 = .ok (.iload_n 2, 1) := by decide +kernel
theorem dX7_countSide_29 : decode cX7_countSide 29 = .ok (.isub, 1) := by decide +kernel
theorem dX7_countSide_30 : decode cX7_countSide 30 = .ok (.invokevirtual 257, 3) := by decide +kernel
theorem dX7_countSide_33 : decode cX7_countSide 33 = .ok (.aload_n 1, 1) := by decide +kernel
theorem dX7_countSide_34 : decode cX7_countSide 34 = .ok (.invokevirtual 349, 3) := by decide +kernel
theorem dX7_countSide_37 : decode cX7_countSide 37 = .ok (.iload_n 2, 1) := by decide +kernel
theorem dX7_countSide_38 : decode cX7_countSide 38 = .ok (.if_icmp .ne 7, 3) := by decide +kernel
theorem dX7_countSide_41 : decode cX7_countSide 41 = .ok (.iconst 1, 1) := by decide +kernel
theorem dX7_countSide_42 : decode cX7_countSide 42 = .ok (.goto 4, 3) := by decide +kernel
theorem dX7_countSide_45 : decode cX7_countSide 45 = .ok (.iconst 0, 1) := by decide +kernel
theorem dX7_countSide_46 : decode cX7_countSide 46 = .ok (.invokevirtual 359, 3) := by decide +kernel
theorem dX7_countSide_49 : decode cX7_countSide 49 = .ok (.return_, 1) := by decide +kernel
theorem dX7_fencerInPlace_0 : decode cX7_fencerInPlace 0 = .ok (.iconst 0, 1) := by decide +kernel
theorem dX7_fencerInPlace_1 : decode cX7_fencerInPlace 1 = .ok (.istore_n 2, 1) := by decide +kernel
theorem dX7_fencerInPlace_2 : decode cX7_fencerInPlace 2 = .ok (.iload_n 2, 1) := by decide +kernel
theorem dX7_fencerInPlace_3 : decode cX7_fencerInPlace 3 = .ok (.aload_n 0, 1) := by decide +kernel
theorem dX7_fencerInPlace_4 : decode cX7_fencerInPlace 4 = .ok (.getfield 52, 3) := by decide +kernel
theorem dX7_fencerInPlace_7 : decode cX7_fencerInPlace 7 = .ok (.if_icmp .ge 30, 3) := by decide +kernel
theorem dX7_fencerInPlace_10 : decode cX7_fencerInPlace 10 = .ok (.aload_n 0, 1) := by decide +kernel
theorem dX7_fencerInPlace_11 : decode cX7_fencerInPlace 11 = .ok (.iload_n 2, 1) := by decide +kernel
theorem dX7_fencerInPlace_12 : decode cX7_fencerInPlace 12 = .ok (.invokevirtual 70, 3) := by decide +kernel
theorem dX7_fencerInPlace_15 : decode cX7_fencerInPlace 15 = .ok (.astore_n 3, 1) := by decide +kernel
theorem dX7_fencerInPlace_16 : decode cX7_fencerInPlace 16 = .ok (.aload_n 3, 1) := by decide +kernel
theorem dX7_fencerInPlace_17 : decode cX7_fencerInPlace 17 = .ok (.ifnull 14, 3) := by decide +kernel
theorem dX7_fencerInPlace_20 : decode cX7_fencerInPlace 20 = .ok (.aload_n 0, 1) := by decide +kernel
theorem dX7_fencerInPlace_21 : decode cX7_fencerInPlace 21 = .ok (.aload_n 3, 1) := by decide +kernel
theorem dX7_fencerInPlace_22 : decode cX7_fencerInPlace 22 = .ok (.invokevirtual 363, 3) := by decide +kernel
theorem dX7_fencerInPlace_25 : decode cX7_fencerInPlace 25 = .ok (.iload_n 1, 1) := by decide +kernel
theorem dX7_fencerInPlace_26 : decode cX7_fencerInPlace 26 = .ok (.if_icmp .ne 5, 3) := by decide +kernel
theorem dX7_fencerInPlace_29 : decode cX7_fencerInPlace 29 = .ok (.iload_n 2, 1) := by decide +kernel
theorem dX7_fencerInPlace_30 : decode cX7_fencerInPlace 30 = .ok (.ireturn, 1) := by decide +kernel
theorem dX7_fencerInPlace_31 : decode cX7_fencerInPlace 31 = .ok (.iinc 2 1, 3) := by decide +kernel
theorem dX7_fencerInPlace_34 : decode cX7_fencerInPlace 34 = .ok (.goto (-32), 3) := by decide +kernel
theorem dX7_fencerInPlace_37 : decode cX7_fencerInPlace 37 = .ok (.iconst (-1), 1) := by decide +kernel
theorem dX7_fencerInPlace_38 : decode cX7_fencerInPlace 38 = .ok (.ireturn, 1) := by decide +kernel
theorem dX7_fencersAhead_0 : decode cX7_fencersAhead 0 = .ok (.iconst 0, 1) := by decide +kernel
theorem dX7_fencersAhead_1 : decode cX7_fencersAhead 1 = .ok (.istore_n 2, 1) := by decide +kernel
theorem dX7_fencersAhead_2 : decode cX7_fencersAhead 2 = .ok (.iconst 0, 1) := by decide +kernel
theorem dX7_fencersAhead_3 : decode cX7_fencersAhead 3 = .ok (.istore_n 3, 1) := by decide +kernel
theorem dX7_fencersAhead_4 : decode cX7_fencersAhead 4 = .ok (.iload_n 3, 1) := by decide +kernel
theorem dX7_fencersAhead_5 : decode cX7_fencersAhead 5 = .ok (.aload_n 0, 1) := by decide +kernel
theorem dX7_fencersAhead_6 : decode cX7_fencersAhead 6 = .ok (.getfield 52, 3) := by decide +kernel
theorem dX7_fencersAhead_9 : decode cX7_fencersAhead 9 = .ok (.if_icmp .ge 33, 3) := by decide +kernel
theorem dX7_fencersAhead_12 : decode cX7_fencersAhead 12 = .ok (.aload_n 0, 1) := by decide +kernel
theorem dX7_fencersAhead_13 : decode cX7_fencersAhead 13 = .ok (.iload_n 3, 1) := by decide +kernel
theorem dX7_fencersAhead_14 : decode cX7_fencersAhead 14 = .ok (.invokevirtual 70, 3) := by decide +kernel
theorem dX7_fencersAhead_17 : decode cX7_fencersAhead 17 = .ok (.astore 4, 2) := by decide +kernel
theorem dX7_fencersAhead_19 : decode cX7_fencersAhead 19 = .ok (.aload 4, 2) := by decide +kernel
theorem dX7_fencersAhead_21 : decode cX7_fencersAhead 21 = .ok (.ifnull 15, 3) := by decide +kernel
theorem dX7_fencersAhead_24 : decode cX7_fencersAhead 24 = .ok (.aload 4, 2) := by decide +kernel
theorem dX7_fencersAhead_26 : decode cX7_fencersAhead 26 = .ok (.aload_n 1, 1) := by decide +kernel
theorem dX7_fencersAhead_27 : decode cX7_fencersAhead 27 = .ok (.invokevirtual 367, 3) := by decide +kernel
theorem dX7_fencersAhead_30 : decode cX7_fencersAhead 30 = .ok (.ifCond .eq 6, 3) := by decide +kernel
theorem dX7_fencersAhead_33 : decode cX7_fencersAhead 33 = .ok (.iinc 2 1, 3) := by decide +kernel
theorem dX7_fencersAhead_36 : decode cX7_fencersAhead 36 = .ok (.iinc 3 1, 3) := by decide +kernel
theorem dX7_fencersAhead_39 : decode cX7_fencersAhead 39 = .ok (.goto (-35), 3) := by decide +kernel
theorem dX7_fencersAhead_42 : decode cX7_fencersAhead 42 = .ok (.iload_n 2, 1) := by decide +kernel
theorem dX7_fencersAhead_43 : decode cX7_fencersAhead 43 = .ok (.ireturn, 1) := by decide +kernel
theorem dL_from_0 : decode cL_from 0 = .ok (.aload_n 0, 1) := by decide +kernel
theorem dL_from_1 : decode cL_from 1 = .ok (.arraylength, 1) := by decide +kernel
theorem dL_from_2 : decode cL_from 2 = .ok (.ifCond .ne 15, 3) := by decide +kernel
theorem dL_from_5 : decode cL_from 5 = .ok (.sipush 307, 3) := by decide +kernel
theorem dL_from_8 : decode cL_from 8 = .ok (.iload_n 1, 1) := by decide +kernel
theorem dL_from_9 : decode cL_from 9 = .ok (.imul, 1) := by decide +kernel
theorem dL_from_10 : decode cL_from 10 = .ok (.sipush 271, 3) := by decide +kernel
theorem dL_from_13 : decode cL_from 13 = .ok (.iadd, 1) := by decide +kernel
theorem dL_from_14 : decode cL_from 14 = .ok (.goto 14, 3) := by decide +kernel
theorem dL_from_17 : decode cL_from 17 = .ok (.aload_n 0, 1) := by decide +kernel
theorem dL_from_18 : decode cL_from 18 = .ok (.iload_n 1, 1) := by decide +kernel
theorem dL_from_19 : decode cL_from 19 = .ok (.aload_n 0, 1) := by decide +kernel
theorem dL_from_20 : decode cL_from 20 = .ok (.arraylength, 1) := by decide +kernel
theorem dL_from_21 : decode cL_from 21 = .ok (.irem, 1) := by decide +kernel
theorem dL_from_22 : decode cL_from 22 = .ok (.iaload, 1) := by decide +kernel
theorem dL_from_23 : decode cL_from 23 = .ok (.ldc 7, 2) := by decide +kernel
theorem dL_from_25 : decode cL_from 25 = .ok (.iload_n 1, 1) := by decide +kernel
theorem dL_from_26 : decode cL_from 26 = .ok (.imul, 1) := by decide +kernel
theorem dL_from_27 : decode cL_from 27 = .ok (.ixor, 1) := by decide +kernel
theorem dL_from_28 : decode cL_from 28 = .ok (.istore_n 3, 1) := by decide +kernel
theorem dL_from_29 : decode cL_from 29 = .ok (.iload_n 3, 1) := by decide +kernel
theorem dL_from_30 : decode cL_from 30 = .ok (.ldc 8, 2) := by decide +kernel
theorem dL_from_32 : decode cL_from 32 = .ok (.iand, 1) := by decide +kernel
theorem dL_from_33 : decode cL_from 33 = .ok (.iload_n 2, 1) := by decide +kernel
theorem dL_from_34 : decode cL_from 34 = .ok (.irem, 1) := by decide +kernel
theorem dL_from_35 : decode cL_from 35 = .ok (.ireturn, 1) := by decide +kernel
theorem dL_number_0 : decode cL_number 0 = .ok (.iload_n 0, 1) := by decide +kernel
theorem dL_number_1 : decode cL_number 1 = .ok (.bipush 6, 2) := by decide +kernel
theorem dL_number_3 : decode cL_number 3 = .ok (.if_icmp .ge 7, 3) := by decide +kernel
theorem dL_number_6 : decode cL_number 6 = .ok (.iload_n 0, 1) := by decide +kernel
theorem dL_number_7 : decode cL_number 7 = .ok (.goto 7, 3) := by decide +kernel
theorem dL_number_10 : decode cL_number 10 = .ok (.bipush 95, 2) := by decide +kernel
theorem dL_number_12 : decode cL_number 12 = .ok (.iload_n 0, 1) := by decide +kernel
theorem dL_number_13 : decode cL_number 13 = .ok (.iadd, 1) := by decide +kernel
theorem dL_number_14 : decode cL_number 14 = .ok (.ireturn, 1) := by decide +kernel
theorem dL_bits_0 : decode cL_bits 0 = .ok (.aload_n 0, 1) := by decide +kernel
theorem dL_bits_1 : decode cL_bits 1 = .ok (.iconst 3, 1) := by decide +kernel
theorem dL_bits_2 : decode cL_bits 2 = .ok (.iload_n 1, 1) := by decide +kernel
theorem dL_bits_3 : decode cL_bits 3 = .ok (.imul, 1) := by decide +kernel
theorem dL_bits_4 : decode cL_bits 4 = .ok (.iload_n 2, 1) := by decide +kernel
theorem dL_bits_5 : decode cL_bits 5 = .ok (.iconst 4, 1) := by decide +kernel
theorem dL_bits_6 : decode cL_bits 6 = .ok (.idiv, 1) := by decide +kernel
theorem dL_bits_7 : decode cL_bits 7 = .ok (.iadd, 1) := by decide +kernel
theorem dL_bits_8 : decode cL_bits 8 = .ok (.laload, 1) := by decide +kernel
theorem dL_bits_9 : decode cL_bits 9 = .ok (.bipush 16, 2) := by decide +kernel
theorem dL_bits_11 : decode cL_bits 11 = .ok (.iload_n 2, 1) := by decide +kernel
theorem dL_bits_12 : decode cL_bits 12 = .ok (.iconst 4, 1) := by decide +kernel
theorem dL_bits_13 : decode cL_bits 13 = .ok (.irem, 1) := by decide +kernel
theorem dL_bits_14 : decode cL_bits 14 = .ok (.imul, 1) := by decide +kernel
theorem dL_bits_15 : decode cL_bits 15 = .ok (.iload_n 3, 1) := by decide +kernel
theorem dL_bits_16 : decode cL_bits 16 = .ok (.iadd, 1) := by decide +kernel
theorem dL_bits_17 : decode cL_bits 17 = .ok (.lushr, 1) := by decide +kernel
theorem dL_bits_18 : decode cL_bits 18 = .ok (.l2i, 1) := by decide +kernel
theorem dL_bits_19 : decode cL_bits 19 = .ok (.iconst 1, 1) := by decide +kernel
theorem dL_bits_20 : decode cL_bits 20 = .ok (.iload 4, 2) := by decide +kernel
theorem dL_bits_22 : decode cL_bits 22 = .ok (.ishl, 1) := by decide +kernel
theorem dL_bits_23 : decode cL_bits 23 = .ok (.iconst 1, 1) := by decide +kernel
theorem dL_bits_24 : decode cL_bits 24 = .ok (.isub, 1) := by decide +kernel
theorem dL_bits_25 : decode cL_bits 25 = .ok (.iand, 1) := by decide +kernel
end
section
theorem dL_bits_26 : decode cL_bits 26 = .ok (.ireturn, 1) := by decide +kernel
theorem dL_judge_0 : decode cL_judge 0 = .ok (.iconst (-1), 1) := by decide +kernel
theorem dL_judge_1 : decode cL_judge 1 = .ok (.istore 4, 2) := by decide +kernel
theorem dL_judge_3 : decode cL_judge 3 = .ok (.iconst (-1), 1) := by decide +kernel
theorem dL_judge_4 : decode cL_judge 4 = .ok (.istore 5, 2) := by decide +kernel
theorem dL_judge_6 : decode cL_judge 6 = .ok (.iconst (-1), 1) := by decide +kernel
theorem dL_judge_7 : decode cL_judge 7 = .ok (.istore 6, 2) := by decide +kernel
theorem dL_judge_9 : decode cL_judge 9 = .ok (.iconst 0, 1) := by decide +kernel
theorem dL_judge_10 : decode cL_judge 10 = .ok (.istore 7, 2) := by decide +kernel
theorem dL_judge_12 : decode cL_judge 12 = .ok (.iconst 0, 1) := by decide +kernel
theorem dL_judge_13 : decode cL_judge 13 = .ok (.istore 8, 2) := by decide +kernel
theorem dL_judge_15 : decode cL_judge 15 = .ok (.iconst 0, 1) := by decide +kernel
theorem dL_judge_16 : decode cL_judge 16 = .ok (.istore 9, 2) := by decide +kernel
theorem dL_judge_18 : decode cL_judge 18 = .ok (.iload 9, 2) := by decide +kernel
theorem dL_judge_20 : decode cL_judge 20 = .ok (.aload_n 2, 1) := by decide +kernel
theorem dL_judge_21 : decode cL_judge 21 = .ok (.iconst 5, 1) := by decide +kernel
theorem dL_judge_22 : decode cL_judge 22 = .ok (.iaload, 1) := by decide +kernel
theorem dL_judge_23 : decode cL_judge 23 = .ok (.if_icmp .ge 156, 3) := by decide +kernel
theorem dL_judge_26 : decode cL_judge 26 = .ok (.aload_n 0, 1) := by decide +kernel
theorem dL_judge_27 : decode cL_judge 27 = .ok (.iload 9, 2) := by decide +kernel
theorem dL_judge_29 : decode cL_judge 29 = .ok (.iaload, 1) := by decide +kernel
theorem dL_judge_30 : decode cL_judge 30 = .ok (.iconst 2, 1) := by decide +kernel
theorem dL_judge_31 : decode cL_judge 31 = .ok (.idiv, 1) := by decide +kernel
theorem dL_judge_32 : decode cL_judge 32 = .ok (.istore 10, 2) := by decide +kernel
theorem dL_judge_34 : decode cL_judge 34 = .ok (.aload_n 0, 1) := by decide +kernel
theorem dL_judge_35 : decode cL_judge 35 = .ok (.iload 9, 2) := by decide +kernel
theorem dL_judge_37 : decode cL_judge 37 = .ok (.iaload, 1) := by decide +kernel
theorem dL_judge_38 : decode cL_judge 38 = .ok (.iconst 3, 1) := by decide +kernel
theorem dL_judge_39 : decode cL_judge 39 = .ok (.if_icmp .le 14, 3) := by decide +kernel
theorem dL_judge_42 : decode cL_judge 42 = .ok (.aload_n 0, 1) := by decide +kernel
theorem dL_judge_43 : decode cL_judge 43 = .ok (.iload 9, 2) := by decide +kernel
theorem dL_judge_45 : decode cL_judge 45 = .ok (.iaload, 1) := by decide +kernel
theorem dL_judge_46 : decode cL_judge 46 = .ok (.iconst 5, 1) := by decide +kernel
theorem dL_judge_47 : decode cL_judge 47 = .ok (.isub, 1) := by decide +kernel
theorem dL_judge_48 : decode cL_judge 48 = .ok (.istore 6, 2) := by decide +kernel
theorem dL_judge_50 : decode cL_judge 50 = .ok (.goto 123, 3) := by decide +kernel
theorem dL_judge_53 : decode cL_judge 53 = .ok (.aload_n 2, 1) := by decide +kernel
theorem dL_judge_54 : decode cL_judge 54 = .ok (.bipush 9, 2) := by decide +kernel
theorem dL_judge_56 : decode cL_judge 56 = .ok (.iaload, 1) := by decide +kernel
theorem dL_judge_57 : decode cL_judge 57 = .ok (.ifCond .ne 13, 3) := by decide +kernel
theorem dL_judge_60 : decode cL_judge 60 = .ok (.aload_n 0, 1) := by decide +kernel
theorem dL_judge_61 : decode cL_judge 61 = .ok (.iload 9, 2) := by decide +kernel
theorem dL_judge_63 : decode cL_judge 63 = .ok (.iaload, 1) := by decide +kernel
theorem dL_judge_64 : decode cL_judge 64 = .ok (.iconst 2, 1) := by decide +kernel
theorem dL_judge_65 : decode cL_judge 65 = .ok (.irem, 1) := by decide +kernel
theorem dL_judge_66 : decode cL_judge 66 = .ok (.iconst 1, 1) := by decide +kernel
theorem dL_judge_67 : decode cL_judge 67 = .ok (.if_icmp .ne 106, 3) := by decide +kernel
theorem dL_judge_70 : decode cL_judge 70 = .ok (.iload 7, 2) := by decide +kernel
theorem dL_judge_72 : decode cL_judge 72 = .ok (.iload 10, 2) := by decide +kernel
theorem dL_judge_74 : decode cL_judge 74 = .ok (.ishr, 1) := by decide +kernel
theorem dL_judge_75 : decode cL_judge 75 = .ok (.iconst 1, 1) := by decide +kernel
theorem dL_judge_76 : decode cL_judge 76 = .ok (.iand, 1) := by decide +kernel
theorem dL_judge_77 : decode cL_judge 77 = .ok (.ifCond .ne 96, 3) := by decide +kernel
theorem dL_judge_80 : decode cL_judge 80 = .ok (.iload 7, 2) := by decide +kernel
theorem dL_judge_82 : decode cL_judge 82 = .ok (.ifCond .ne 13, 3) := by decide +kernel
theorem dL_judge_85 : decode cL_judge 85 = .ok (.aload_n 1, 1) := by decide +kernel
theorem dL_judge_86 : decode cL_judge 86 = .ok (.iload 9, 2) := by decide +kernel
theorem dL_judge_88 : decode cL_judge 88 = .ok (.iaload, 1) := by decide +kernel
theorem dL_judge_89 : decode cL_judge 89 = .ok (.istore 5, 2) := by decide +kernel
theorem dL_judge_91 : decode cL_judge 91 = .ok (.iload 6, 2) := by decide +kernel
theorem dL_judge_93 : decode cL_judge 93 = .ok (.istore 4, 2) := by decide +kernel
theorem dL_judge_95 : decode cL_judge 95 = .ok (.aload_n 1, 1) := by decide +kernel
theorem dL_judge_96 : decode cL_judge 96 = .ok (.iload 9, 2) := by decide +kernel
theorem dL_judge_98 : decode cL_judge 98 = .ok (.iaload, 1) := by decide +kernel
theorem dL_judge_99 : decode cL_judge 99 = .ok (.iload 5, 2) := by decide +kernel
theorem dL_judge_101 : decode cL_judge 101 = .ok (.isub, 1) := by decide +kernel
theorem dL_judge_102 : decode cL_judge 102 = .ok (.aload_n 2, 1) := by decide +kernel
theorem dL_judge_103 : decode cL_judge 103 = .ok (.bipush 9, 2) := by decide +kernel
theorem dL_judge_105 : decode cL_judge 105 = .ok (.iaload, 1) := by decide +kernel
theorem dL_judge_106 : decode cL_judge 106 = .ok (.ifCond .ne 8, 3) := by decide +kernel
theorem dL_judge_109 : decode cL_judge 109 = .ok (.bipush 40, 2) := by decide +kernel
theorem dL_judge_111 : decode cL_judge 111 = .ok (.goto 6, 3) := by decide +kernel
theorem dL_judge_114 : decode cL_judge 114 = .ok (.sipush 300, 3) := by decide +kernel
theorem dL_judge_117 : decode cL_judge 117 = .ok (.if_icmp .gt 7, 3) := by decide +kernel
theorem dL_judge_120 : decode cL_judge 120 = .ok (.iconst 1, 1) := by decide +kernel
theorem dL_judge_121 : decode cL_judge 121 = .ok (.goto 4, 3) := by decide +kernel
theorem dL_judge_124 : decode cL_judge 124 = .ok (.iconst 0, 1) := by decide +kernel
theorem dL_judge_125 : decode cL_judge 125 = .ok (.istore 11, 2) := by decide +kernel
theorem dL_judge_127 : decode cL_judge 127 = .ok (.iload 7, 2) := by decide +kernel
theorem dL_judge_129 : decode cL_judge 129 = .ok (.iload 11, 2) := by decide +kernel
theorem dL_judge_131 : decode cL_judge 131 = .ok (.ifCond .eq 10, 3) := by decide +kernel
theorem dL_judge_134 : decode cL_judge 134 = .ok (.iconst 1, 1) := by decide +kernel
theorem dL_judge_135 : decode cL_judge 135 = .ok (.iload 10, 2) := by decide +kernel
theorem dL_judge_137 : decode cL_judge 137 = .ok (.ishl, 1) := by decide +kernel
theorem dL_judge_138 : decode cL_judge 138 = .ok (.goto 4, 3) := by decide +kernel
theorem dL_judge_141 : decode cL_judge 141 = .ok (.iconst 0, 1) := by decide +kernel
theorem dL_judge_142 : decode cL_judge 142 = .ok (.ior, 1) := by decide +kernel
theorem dL_judge_143 : decode cL_judge 143 = .ok (.istore 7, 2) := by decide +kernel
theorem dL_judge_145 : decode cL_judge 145 = .ok (.iload 8, 2) := by decide +kernel
theorem dL_judge_147 : decode cL_judge 147 = .ok (.iload 11, 2) := by decide +kernel
theorem dL_judge_149 : decode cL_judge 149 = .ok (.ifCond .eq 20, 3) := by decide +kernel
theorem dL_judge_152 : decode cL_judge 152 = .ok (.aload_n 0, 1) := by decide +kernel
theorem dL_judge_153 : decode cL_judge 153 = .ok (.iload 9, 2) := by decide +kernel
theorem dL_judge_155 : decode cL_judge 155 = .ok (.iaload, 1) := by decide +kernel
theorem dL_judge_156 : decode cL_judge 156 = .ok (.iconst 2, 1) := by decide +kernel
theorem dL_judge_157 : decode cL_judge 157 = .ok (.irem, 1) := by decide +kernel
theorem dL_judge_158 : decode cL_judge 158 = .ok (.iconst 1, 1) := by decide +kernel
theorem dL_judge_159 : decode cL_judge 159 = .ok (.if_icmp .ne 10, 3) := by decide +kernel
theorem dL_judge_162 : decode cL_judge 162 = .ok (.iconst 1, 1) := by decide +kernel
theorem dL_judge_163 : decode cL_judge 163 = .ok (.iload 10, 2) := by decide +kernel
theorem dL_judge_165 : decode cL_judge 165 = .ok (.ishl, 1) := by decide +kernel
theorem dL_judge_166 : decode cL_judge 166 = .ok (.goto 4, 3) := by decide +kernel
theorem dL_judge_169 : decode cL_judge 169 = .ok (.iconst 0, 1) := by decide +kernel
theorem dL_judge_170 : decode cL_judge 170 = .ok (.ior, 1) := by decide +kernel
theorem dL_judge_171 : decode cL_judge 171 = .ok (.istore 8, 2) := by decide +kernel
theorem dL_judge_173 : decode cL_judge 173 = .ok (.iinc 9 1, 3) := by decide +kernel
theorem dL_judge_176 : decode cL_judge 176 = .ok (.goto (-158), 3) := by decide +kernel
theorem dL_judge_179 : decode cL_judge 179 = .ok (.iload_n 3, 1) := by decide +kernel
theorem dL_judge_180 : decode cL_judge 180 = .ok (.bipush (-2), 2) := by decide +kernel
theorem dL_judge_182 : decode cL_judge 182 = .ok (.if_icmp .ne 8, 3) := by decide +kernel
theorem dL_judge_185 : decode cL_judge 185 = .ok (.iload 4, 2) := by decide +kernel
theorem dL_judge_187 : decode cL_judge 187 = .ok (.goto 4, 3) := by decide +kernel
theorem dL_judge_190 : decode cL_judge 190 = .ok (.iload_n 3, 1) := by decide +kernel
theorem dL_judge_191 : decode cL_judge 191 = .ok (.istore 9, 2) := by decide +kernel
theorem dL_judge_193 : decode cL_judge 193 = .ok (.aload_n 2, 1) := by decide +kernel
theorem dL_judge_194 : decode cL_judge 194 = .ok (.bipush 9, 2) := by decide +kernel
theorem dL_judge_196 : decode cL_judge 196 = .ok (.iaload, 1) := by decide +kernel
theorem dL_judge_197 : decode cL_judge 197 = .ok (.ifCond .eq 9, 3) := by decide +kernel
theorem dL_judge_200 : decode cL_judge 200 = .ok (.iload 7, 2) := by decide +kernel
theorem dL_judge_202 : decode cL_judge 202 = .ok (.iconst 3, 1) := by decide +kernel
theorem dL_judge_203 : decode cL_judge 203 = .ok (.if_icmp .eq 8, 3) := by decide +kernel
theorem dL_judge_206 : decode cL_judge 206 = .ok (.iload 8, 2) := by decide +kernel
theorem dL_judge_208 : decode cL_judge 208 = .ok (.goto 19, 3) := by decide +kernel
theorem dL_judge_211 : decode cL_judge 211 = .ok (.iload 9, 2) := by decide +kernel
theorem dL_judge_213 : decode cL_judge 213 = .ok (.ifCond .ge 7, 3) := by decide +kernel
theorem dL_judge_216 : decode cL_judge 216 = .ok (.iconst 0, 1) := by decide +kernel
theorem dL_judge_217 : decode cL_judge 217 = .ok (.goto 10, 3) := by decide +kernel
theorem dL_judge_220 : decode cL_judge 220 = .ok (.iload 8, 2) := by decide +kernel
theorem dL_judge_222 : decode cL_judge 222 = .ok (.iconst 1, 1) := by decide +kernel
theorem dL_judge_223 : decode cL_judge 223 = .ok (.iload 9, 2) := by decide +kernel
theorem dL_judge_225 : decode cL_judge 225 = .ok (.ishl, 1) := by decide +kernel
theorem dL_judge_226 : decode cL_judge 226 = .ok (.iand, 1) := by decide +kernel
theorem dL_judge_227 : decode cL_judge 227 = .ok (.ireturn, 1) := by decide +kernel
theorem dL_strikes_0 : decode cL_strikes 0 = .ok (.aload_n 0, 1) := by decide +kernel
theorem dL_strikes_1 : decode cL_strikes 1 = .ok (.iconst 2, 1) := by decide +kernel
theorem dL_strikes_2 : decode cL_strikes 2 = .ok (.iload_n 1, 1) := by decide +kernel
theorem dL_strikes_3 : decode cL_strikes 3 = .ok (.imul, 1) := by decide +kernel
theorem dL_strikes_4 : decode cL_strikes 4 = .ok (.iconst 1, 1) := by decide +kernel
theorem dL_strikes_5 : decode cL_strikes 5 = .ok (.iadd, 1) := by decide +kernel
theorem dL_strikes_6 : decode cL_strikes 6 = .ok (.iaload, 1) := by decide +kernel
theorem dL_strikes_7 : decode cL_strikes 7 = .ok (.iconst 3, 1) := by decide +kernel
theorem dL_strikes_8 : decode cL_strikes 8 = .ok (.if_icmp .eq 18, 3) := by decide +kernel
theorem dL_strikes_11 : decode cL_strikes 11 = .ok (.iload_n 2, 1) := by decide +kernel
theorem dL_strikes_12 : decode cL_strikes 12 = .ok (.ifCond .ne 18, 3) := by decide +kernel
theorem dL_strikes_15 : decode cL_strikes 15 = .ok (.aload_n 0, 1) := by decide +kernel
theorem dL_strikes_16 : decode cL_strikes 16 = .ok (.iconst 2, 1) := by decide +kernel
theorem dL_strikes_17 : decode cL_strikes 17 = .ok (.iload_n 1, 1) := by decide +kernel
theorem dL_strikes_18 : decode cL_strikes 18 = .ok (.imul, 1) := by decide +kernel
theorem dL_strikes_19 : decode cL_strikes 19 = .ok (.iconst 1, 1) := by decide +kernel
theorem dL_strikes_20 : decode cL_strikes 20 = .ok (.iadd, 1) := by decide +kernel
theorem dL_strikes_21 : decode cL_strikes 21 = .ok (.iaload, 1) := by decide +kernel
theorem dL_strikes_22 : decode cL_strikes 22 = .ok (.iconst 2, 1) := by decide +kernel
theorem dL_strikes_23 : decode cL_strikes 23 = .ok (.if_icmp .ne 7, 3) := by decide +kernel
theorem dL_strikes_26 : decode cL_strikes 26 = .ok (.iconst 1, 1) := by decide +kernel
theorem dL_strikes_27 : decode cL_strikes 27 = .ok (.goto 4, 3) := by decide +kernel
theorem dL_strikes_30 : decode cL_strikes 30 = .ok (.iconst 0, 1) := by decide +kernel
theorem dL_strikes_31 : decode cL_strikes 31 = .ok (.ireturn, 1) := by decide +kernel
theorem dL_touches_0 : decode cL_touches 0 = .ok (.aload_n 1, 1) := by decide +kernel
theorem dL_touches_1 : decode cL_touches 1 = .ok (.iload_n 2, 1) := by decide +kernel
theorem dL_touches_2 : decode cL_touches 2 = .ok (.iload_n 3, 1) := by decide +kernel
theorem dL_touches_3 : decode cL_touches 3 = .ok (.bipush 8, 2) := by decide +kernel
theorem dL_touches_5 : decode cL_touches 5 = .ok (.iconst 2, 1) := by decide +kernel
theorem dL_touches_6 : decode cL_touches 6 = .ok (.aload_n 1, 1) := by decide +kernel
theorem dL_touches_7 : decode cL_touches 7 = .ok (.iload_n 2, 1) := by decide +kernel
theorem dL_touches_8 : decode cL_touches 8 = .ok (.iload_n 3, 1) := by decide +kernel
theorem dL_touches_9 : decode cL_touches 9 = .ok (.bipush 14, 2) := by decide +kernel
theorem dL_touches_11 : decode cL_touches 11 = .ok (.iconst 2, 1) := by decide +kernel
theorem dL_touches_12 : decode cL_touches 12 = .ok (.invokestatic 9, 3) := by decide +kernel
theorem dL_touches_15 : decode cL_touches 15 = .ok (.imul, 1) := by decide +kernel
theorem dL_touches_16 : decode cL_touches 16 = .ok (.iadd, 1) := by decide +kernel
theorem dL_touches_17 : decode cL_touches 17 = .ok (.iconst 2, 1) := by decide +kernel
theorem dL_touches_18 : decode cL_touches 18 = .ok (.invokestatic 9, 3) := by decide +kernel
theorem dL_touches_21 : decode cL_touches 21 = .ok (.istore 4, 2) := by decide +kernel
theorem dL_touches_23 : decode cL_touches 23 = .ok (.aload_n 0, 1) := by decide +kernel
theorem dL_touches_24 : decode cL_touches 24 = .ok (.aload_n 1, 1) := by decide +kernel
theorem dL_touches_25 : decode cL_touches 25 = .ok (.iload_n 2, 1) := by decide +kernel
theorem dL_touches_26 : decode cL_touches 26 = .ok (.iload_n 3, 1) := by decide +kernel
theorem dL_touches_27 : decode cL_touches 27 = .ok (.iconst 0, 1) := by decide +kernel
theorem dL_touches_28 : decode cL_touches 28 = .ok (.iconst 4, 1) := by decide +kernel
theorem dL_touches_29 : decode cL_touches 29 = .ok (.invokestatic 9, 3) := by decide +kernel
theorem dL_touches_32 : decode cL_touches 32 = .ok (.iload_n 2, 1) := by decide +kernel
theorem dL_touches_33 : decode cL_touches 33 = .ok (.bipush 6, 2) := by decide +kernel
theorem dL_touches_35 : decode cL_touches 35 = .ok (.if_icmp .ge 7, 3) := by decide +kernel
theorem dL_touches_38 : decode cL_touches 38 = .ok (.iconst 1, 1) := by decide +kernel
theorem dL_touches_39 : decode cL_touches 39 = .ok (.goto 4, 3) := by decide +kernel
theorem dL_touches_42 : decode cL_touches 42 = .ok (.iconst 0, 1) := by decide +kernel
theorem dL_touches_43 : decode cL_touches 43 = .ok (.invokestatic 15, 3) := by decide +kernel
theorem dL_touches_46 : decode cL_touches 46 = .ok (.ifCond .eq 10, 3) := by decide +kernel
theorem dL_touches_49 : decode cL_touches 49 = .ok (.iload 4, 2) := by decide +kernel
theorem dL_touches_51 : decode cL_touches 51 = .ok (.iconst 2, 1) := by decide +kernel
theorem dL_touches_52 : decode cL_touches 52 = .ok (.iand, 1) := by decide +kernel
theorem dL_touches_53 : decode cL_touches 53 = .ok (.goto 5, 3) := by decide +kernel
theorem dL_touches_56 : decode cL_touches 56 = .ok (.iload 4, 2) := by decide +kernel
theorem dL_touches_58 : decode cL_touches 58 = .ok (.istore 4, 2) := by decide +kernel
theorem dL_touches_60 : decode cL_touches 60 = .ok (.aload_n 0, 1) := by decide +kernel
theorem dL_touches_61 : decode cL_touches 61 = .ok (.aload_n 1, 1) := by decide +kernel
theorem dL_touches_62 : decode cL_touches 62 = .ok (.iload_n 2, 1) := by decide +kernel
theorem dL_touches_63 : decode cL_touches 63 = .ok (.iload_n 3, 1) := by decide +kernel
theorem dL_touches_64 : decode cL_touches 64 = .ok (.iconst 4, 1) := by decide +kernel
theorem dL_touches_65 : decode cL_touches 65 = .ok (.iconst 4, 1) := by decide +kernel
theorem dL_touches_66 : decode cL_touches 66 = .ok (.invokestatic 9, 3) := by decide +kernel
theorem dL_touches_69 : decode cL_touches 69 = .ok (.iload_n 2, 1) := by decide +kernel
theorem dL_touches_70 : decode cL_touches 70 = .ok (.bipush 6, 2) := by decide +kernel
theorem dL_touches_72 : decode cL_touches 72 = .ok (.if_icmp .ge 7, 3) := by decide +kernel
theorem dL_touches_75 : decode cL_touches 75 = .ok (.iconst 1, 1) := by decide +kernel
theorem dL_touches_76 : decode cL_touches 76 = .ok (.goto 4, 3) := by decide +kernel
theorem dL_touches_79 : decode cL_touches 79 = .ok (.iconst 0, 1) := by decide +kernel
theorem dL_touches_80 : decode cL_touches 80 = .ok (.invokestatic 15, 3) := by decide +kernel
theorem dL_touches_83 : decode cL_touches 83 = .ok (.ifCond .eq 10, 3) := by decide +kernel
theorem dL_touches_86 : decode cL_touches 86 = .ok (.iload 4, 2) := by decide +kernel
theorem dL_touches_88 : decode cL_touches 88 = .ok (.iconst 1, 1) := by decide +kernel
theorem dL_touches_89 : decode cL_touches 89 = .ok (.iand, 1) := by decide +kernel
theorem dL_touches_90 : decode cL_touches 90 = .ok (.goto 5, 3) := by decide +kernel
theorem dL_touches_93 : decode cL_touches 93 = .ok (.iload 4, 2) := by decide +kernel
theorem dL_touches_95 : decode cL_touches 95 = .ok (.ireturn, 1) := by decide +kernel
theorem dL_told_0 : decode cL_told 0 = .ok (.iload_n 3, 1) := by decide +kernel
theorem dL_told_1 : decode cL_told 1 = .ok (.bipush 6, 2) := by decide +kernel
theorem dL_told_3 : decode cL_told 3 = .ok (.if_icmp .ge 7, 3) := by decide +kernel
theorem dL_told_6 : decode cL_told 6 = .ok (.iconst 3, 1) := by decide +kernel
theorem dL_told_7 : decode cL_told 7 = .ok (.goto 4, 3) := by decide +kernel
theorem dL_told_10 : decode cL_told 10 = .ok (.iconst 5, 1) := by decide +kernel
theorem dL_told_11 : decode cL_told 11 = .ok (.istore 4, 2) := by decide +kernel
theorem dL_told_13 : decode cL_told 13 = .ok (.iconst 0, 1) := by decide +kernel
theorem dL_told_14 : decode cL_told 14 = .ok (.istore 5, 2) := by decide +kernel
theorem dL_told_16 : decode cL_told 16 = .ok (.iconst 0, 1) := by decide +kernel
theorem dL_told_17 : decode cL_told 17 = .ok (.istore 6, 2) := by decide +kernel
theorem dL_told_19 : decode cL_told 19 = .ok (.iconst 0, 1) := by decide +kernel
theorem dL_told_20 : decode cL_told 20 = .ok (.istore 7, 2) := by decide +kernel
theorem dL_told_22 : decode cL_told 22 = .ok (.iload 7, 2) := by decide +kernel
theorem dL_told_24 : decode cL_told 24 = .ok (.aload_n 2, 1) := by decide +kernel
theorem dL_told_25 : decode cL_told 25 = .ok (.iload_n 3, 1) := by decide +kernel
theorem dL_told_26 : decode cL_told 26 = .ok (.iaload, 1) := by decide +kernel
theorem dL_told_27 : decode cL_told 27 = .ok (.if_icmp .ge 100, 3) := by decide +kernel
theorem dL_told_30 : decode cL_told 30 = .ok (.iload 5, 2) := by decide +kernel
theorem dL_told_32 : decode cL_told 32 = .ok (.iload 4, 2) := by decide +kernel
theorem dL_told_34 : decode cL_told 34 = .ok (.if_icmp .ge 93, 3) := by decide +kernel
theorem dL_told_37 : decode cL_told 37 = .ok (.iload 6, 2) := by decide +kernel
theorem dL_told_39 : decode cL_told 39 = .ok (.iload 4, 2) := by decide +kernel
theorem dL_told_41 : decode cL_told 41 = .ok (.if_icmp .ge 86, 3) := by decide +kernel
theorem dL_told_44 : decode cL_told 44 = .ok (.aload_n 0, 1) := by decide +kernel
theorem dL_told_45 : decode cL_told 45 = .ok (.aload_n 1, 1) := by decide +kernel
theorem dL_told_46 : decode cL_told 46 = .ok (.iload_n 3, 1) := by decide +kernel
theorem dL_told_47 : decode cL_told 47 = .ok (.iload 7, 2) := by decide +kernel
theorem dL_told_49 : decode cL_told 49 = .ok (.invokestatic 19, 3) := by decide +kernel
theorem dL_told_52 : decode cL_told 52 = .ok (.istore 8, 2) := by decide +kernel
theorem dL_told_54 : decode cL_told 54 = .ok (.iload 8, 2) := by decide +kernel
theorem dL_told_56 : decode cL_told 56 = .ok (.iconst 3, 1) := by decide +kernel
theorem dL_told_57 : decode cL_told 57 = .ok (.if_icmp .ne 25, 3) := by decide +kernel
theorem dL_told_60 : decode cL_told 60 = .ok (.iload 5, 2) := by decide +kernel
theorem dL_told_62 : decode cL_told 62 = .ok (.iload 4, 2) := by decide +kernel
theorem dL_told_64 : decode cL_told 64 = .ok (.iconst 1, 1) := by decide +kernel
theorem dL_told_65 : decode cL_told 65 = .ok (.isub, 1) := by decide +kernel
theorem dL_told_66 : decode cL_told 66 = .ok (.if_icmp .ne 16, 3) := by decide +kernel
theorem dL_told_69 : decode cL_told 69 = .ok (.iload 6, 2) := by decide +kernel
theorem dL_told_71 : decode cL_told 71 = .ok (.iload 4, 2) := by decide +kernel
theorem dL_told_73 : decode cL_told 73 = .ok (.iconst 1, 1) := by decide +kernel
theorem dL_told_74 : decode cL_told 74 = .ok (.isub, 1) := by decide +kernel
theorem dL_told_75 : decode cL_told 75 = .ok (.if_icmp .ne 7, 3) := by decide +kernel
theorem dL_told_78 : decode cL_told 78 = .ok (.iconst 1, 1) := by decide +kernel
theorem dL_told_79 : decode cL_told 79 = .ok (.goto 4, 3) := by decide +kernel
theorem dL_told_82 : decode cL_told 82 = .ok (.iconst 0, 1) := by decide +kernel
theorem dL_told_83 : decode cL_told 83 = .ok (.istore 9, 2) := by decide +kernel
theorem dL_told_85 : decode cL_told 85 = .ok (.iload 5, 2) := by decide +kernel
theorem dL_told_87 : decode cL_told 87 = .ok (.iload 9, 2) := by decide +kernel
theorem dL_told_89 : decode cL_told 89 = .ok (.ifCond .eq 7, 3) := by decide +kernel
theorem dL_told_92 : decode cL_told 92 = .ok (.iconst 0, 1) := by decide +kernel
theorem dL_told_93 : decode cL_told 93 = .ok (.goto 7, 3) := by decide +kernel
theorem dL_told_96 : decode cL_told 96 = .ok (.iload 8, 2) := by decide +kernel
theorem dL_told_98 : decode cL_told 98 = .ok (.iconst 2, 1) := by decide +kernel
theorem dL_told_99 : decode cL_told 99 = .ok (.irem, 1) := by decide +kernel
theorem dL_told_100 : decode cL_told 100 = .ok (.iadd, 1) := by decide +kernel
theorem dL_told_101 : decode cL_told 101 = .ok (.istore 5, 2) := by decide +kernel
theorem dL_told_103 : decode cL_told 103 = .ok (.iload 6, 2) := by decide +kernel
theorem dL_told_105 : decode cL_told 105 = .ok (.iload 9, 2) := by decide +kernel
theorem dL_told_107 : decode cL_told 107 = .ok (.ifCond .eq 7, 3) := by decide +kernel
theorem dL_told_110 : decode cL_told 110 = .ok (.iconst 0, 1) := by decide +kernel
theorem dL_told_111 : decode cL_told 111 = .ok (.goto 7, 3) := by decide +kernel
theorem dL_told_114 : decode cL_told 114 = .ok (.iload 8, 2) := by decide +kernel
theorem dL_told_116 : decode cL_told 116 = .ok (.iconst 2, 1) := by decide +kernel
theorem dL_told_117 : decode cL_told 117 = .ok (.idiv, 1) := by decide +kernel
theorem dL_told_118 : decode cL_told 118 = .ok (.iadd, 1) := by decide +kernel
theorem dL_told_119 : decode cL_told 119 = .ok (.istore 6, 2) := by decide +kernel
theorem dL_told_121 : decode cL_told 121 = .ok (.iinc 7 1, 3) := by decide +kernel
theorem dL_told_124 : decode cL_told 124 = .ok (.goto (-102), 3) := by decide +kernel
theorem dL_told_127 : decode cL_told 127 = .ok (.iload 5, 2) := by decide +kernel
theorem dL_told_129 : decode cL_told 129 = .ok (.iload 4, 2) := by decide +kernel
theorem dL_told_131 : decode cL_told 131 = .ok (.if_icmp .ne 7, 3) := by decide +kernel
theorem dL_told_134 : decode cL_told 134 = .ok (.iconst 1, 1) := by decide +kernel
theorem dL_told_135 : decode cL_told 135 = .ok (.goto 38, 3) := by decide +kernel
theorem dL_told_138 : decode cL_told 138 = .ok (.iload 6, 2) := by decide +kernel
theorem dL_told_140 : decode cL_told 140 = .ok (.iload 4, 2) := by decide +kernel
theorem dL_told_142 : decode cL_told 142 = .ok (.if_icmp .ne 7, 3) := by decide +kernel
theorem dL_told_145 : decode cL_told 145 = .ok (.iconst 2, 1) := by decide +kernel
theorem dL_told_146 : decode cL_told 146 = .ok (.goto 27, 3) := by decide +kernel
theorem dL_told_149 : decode cL_told 149 = .ok (.aload_n 2, 1) := by decide +kernel
theorem dL_told_150 : decode cL_told 150 = .ok (.iload_n 3, 1) := by decide +kernel
theorem dL_told_151 : decode cL_told 151 = .ok (.iaload, 1) := by decide +kernel
theorem dL_told_152 : decode cL_told 152 = .ok (.bipush 12, 2) := by decide +kernel
theorem dL_told_154 : decode cL_told 154 = .ok (.if_icmp .ge 7, 3) := by decide +kernel
theorem dL_told_157 : decode cL_told 157 = .ok (.iconst 0, 1) := by decide +kernel
theorem dL_told_158 : decode cL_told 158 = .ok (.goto 15, 3) := by decide +kernel
theorem dL_told_161 : decode cL_told 161 = .ok (.iload 6, 2) := by decide +kernel
theorem dL_told_163 : decode cL_told 163 = .ok (.iload 5, 2) := by decide +kernel
theorem dL_told_165 : decode cL_told 165 = .ok (.if_icmp .le 7, 3) := by decide +kernel
theorem dL_told_168 : decode cL_told 168 = .ok (.iconst 2, 1) := by decide +kernel
theorem dL_told_169 : decode cL_told 169 = .ok (.goto 4, 3) := by decide +kernel
theorem dL_told_172 : decode cL_told 172 = .ok (.iconst 1, 1) := by decide +kernel
theorem dL_told_173 : decode cL_told 173 = .ok (.istore 7, 2) := by decide +kernel
theorem dL_told_175 : decode cL_told 175 = .ok (.bipush 100, 2) := by decide +kernel
theorem dL_told_177 : decode cL_told 177 = .ok (.iload 7, 2) := by decide +kernel
theorem dL_told_179 : decode cL_told 179 = .ok (.imul, 1) := by decide +kernel
theorem dL_told_180 : decode cL_told 180 = .ok (.bipush 10, 2) := by decide +kernel
theorem dL_told_182 : decode cL_told 182 = .ok (.iload 5, 2) := by decide +kernel
theorem dL_told_184 : decode cL_told 184 = .ok (.imul, 1) := by decide +kernel
theorem dL_told_185 : decode cL_told 185 = .ok (.iadd, 1) := by decide +kernel
theorem dL_told_186 : decode cL_told 186 = .ok (.iload 6, 2) := by decide +kernel
theorem dL_told_188 : decode cL_told 188 = .ok (.iadd, 1) := by decide +kernel
theorem dL_told_189 : decode cL_told 189 = .ok (.ireturn, 1) := by decide +kernel
theorem dL_fencer_0 : decode cL_fencer 0 = .ok (.iload_n 1, 1) := by decide +kernel
theorem dL_fencer_1 : decode cL_fencer 1 = .ok (.iconst 5, 1) := by decide +kernel
theorem dL_fencer_2 : decode cL_fencer 2 = .ok (.if_icmp .le 13, 3) := by decide +kernel
theorem dL_fencer_5 : decode cL_fencer 5 = .ok (.aload_n 0, 1) := by decide +kernel
theorem dL_fencer_6 : decode cL_fencer 6 = .ok (.iconst 2, 1) := by decide +kernel
theorem dL_fencer_7 : decode cL_fencer 7 = .ok (.iload_n 1, 1) := by decide +kernel
theorem dL_fencer_8 : decode cL_fencer 8 = .ok (.iconst 5, 1) := by decide +kernel
theorem dL_fencer_9 : decode cL_fencer 9 = .ok (.isub, 1) := by decide +kernel
theorem dL_fencer_10 : decode cL_fencer 10 = .ok (.imul, 1) := by decide +kernel
theorem dL_fencer_11 : decode cL_fencer 11 = .ok (.iload_n 2, 1) := by decide +kernel
theorem dL_fencer_12 : decode cL_fencer 12 = .ok (.iadd, 1) := by decide +kernel
theorem dL_fencer_13 : decode cL_fencer 13 = .ok (.iaload, 1) := by decide +kernel
theorem dL_fencer_14 : decode cL_fencer 14 = .ok (.ireturn, 1) := by decide +kernel
theorem dL_fencer_15 : decode cL_fencer 15 = .ok (.iload_n 2, 1) := by decide +kernel
theorem dL_fencer_16 : decode cL_fencer 16 = .ok (.ifCond .ne 25, 3) := by decide +kernel
theorem dL_fencer_19 : decode cL_fencer 19 = .ok (.iload_n 1, 1) := by decide +kernel
theorem dL_fencer_20 : decode cL_fencer 20 = .ok (.iconst 3, 1) := by decide +kernel
theorem dL_fencer_21 : decode cL_fencer 21 = .ok (.if_icmp .ge 7, 3) := by decide +kernel
theorem dL_fencer_24 : decode cL_fencer 24 = .ok (.iconst 0, 1) := by decide +kernel
theorem dL_fencer_25 : decode cL_fencer 25 = .ok (.goto 39, 3) := by decide +kernel
theorem dL_fencer_28 : decode cL_fencer 28 = .ok (.iload_n 1, 1) := by decide +kernel
theorem dL_fencer_29 : decode cL_fencer 29 = .ok (.iconst 5, 1) := by decide +kernel
theorem dL_fencer_30 : decode cL_fencer 30 = .ok (.if_icmp .ge 7, 3) := by decide +kernel
theorem dL_fencer_33 : decode cL_fencer 33 = .ok (.iconst 1, 1) := by decide +kernel
theorem dL_fencer_34 : decode cL_fencer 34 = .ok (.goto 30, 3) := by decide +kernel
theorem dL_fencer_37 : decode cL_fencer 37 = .ok (.iconst 2, 1) := by decide +kernel
theorem dL_fencer_38 : decode cL_fencer 38 = .ok (.goto 26, 3) := by decide +kernel
theorem dL_fencer_41 : decode cL_fencer 41 = .ok (.iload_n 1, 1) := by decide +kernel
theorem dL_fencer_42 : decode cL_fencer 42 = .ok (.iconst 3, 1) := by decide +kernel
theorem dL_fencer_43 : decode cL_fencer 43 = .ok (.if_icmp .ge 9, 3) := by decide +kernel
theorem dL_fencer_46 : decode cL_fencer 46 = .ok (.iload_n 1, 1) := by decide +kernel
theorem dL_fencer_47 : decode cL_fencer 47 = .ok (.iconst 1, 1) := by decide +kernel
theorem dL_fencer_48 : decode cL_fencer 48 = .ok (.iadd, 1) := by decide +kernel
theorem dL_fencer_49 : decode cL_fencer 49 = .ok (.goto 15, 3) := by decide +kernel
theorem dL_fencer_52 : decode cL_fencer 52 = .ok (.iload_n 1, 1) := by decide +kernel
theorem dL_fencer_53 : decode cL_fencer 53 = .ok (.iconst 5, 1) := by decide +kernel
theorem dL_fencer_54 : decode cL_fencer 54 = .ok (.if_icmp .ge 9, 3) := by decide +kernel
theorem dL_fencer_57 : decode cL_fencer 57 = .ok (.iload_n 1, 1) := by decide +kernel
theorem dL_fencer_58 : decode cL_fencer 58 = .ok (.iconst 1, 1) := by decide +kernel
theorem dL_fencer_59 : decode cL_fencer 59 = .ok (.isub, 1) := by decide +kernel
theorem dL_fencer_60 : decode cL_fencer 60 = .ok (.goto 4, 3) := by decide +kernel
theorem dL_fencer_63 : decode cL_fencer 63 = .ok (.iconst 3, 1) := by decide +kernel
theorem dL_fencer_64 : decode cL_fencer 64 = .ok (.ireturn, 1) := by decide +kernel
theorem dL_winner_0 : decode cL_winner 0 = .ok (.aload_n 0, 1) := by decide +kernel
theorem dL_winner_1 : decode cL_winner 1 = .ok (.aload_n 1, 1) := by decide +kernel
theorem dL_winner_2 : decode cL_winner 2 = .ok (.aload_n 2, 1) := by decide +kernel
theorem dL_winner_3 : decode cL_winner 3 = .ok (.iload 4, 2) := by decide +kernel
theorem dL_winner_5 : decode cL_winner 5 = .ok (.invokestatic 23, 3) := by decide +kernel
theorem dL_winner_8 : decode cL_winner 8 = .ok (.bipush 100, 2) := by decide +kernel
theorem dL_winner_10 : decode cL_winner 10 = .ok (.idiv, 1) := by decide +kernel
theorem dL_winner_11 : decode cL_winner 11 = .ok (.istore 5, 2) := by decide +kernel
theorem dL_winner_13 : decode cL_winner 13 = .ok (.iload 5, 2) := by decide +kernel
theorem dL_winner_15 : decode cL_winner 15 = .ok (.ifCond .ne 7, 3) := by decide +kernel
theorem dL_winner_18 : decode cL_winner 18 = .ok (.iconst (-1), 1) := by decide +kernel
theorem dL_winner_19 : decode cL_winner 19 = .ok (.goto 13, 3) := by decide +kernel
theorem dL_winner_22 : decode cL_winner 22 = .ok (.aload_n 3, 1) := by decide +kernel
theorem dL_winner_23 : decode cL_winner 23 = .ok (.iload 4, 2) := by decide +kernel
theorem dL_winner_25 : decode cL_winner 25 = .ok (.iload 5, 2) := by decide +kernel
theorem dL_winner_27 : decode cL_winner 27 = .ok (.iconst 1, 1) := by decide +kernel
theorem dL_winner_28 : decode cL_winner 28 = .ok (.isub, 1) := by decide +kernel
theorem dL_winner_29 : decode cL_winner 29 = .ok (.invokestatic 27, 3) := by decide +kernel
theorem dL_winner_32 : decode cL_winner 32 = .ok (.ireturn, 1) := by decide +kernel
theorem dL_follow_0 : decode cL_follow 0 = .ok (.bipush 8, 2) := by decide +kernel
theorem dL_follow_2 : decode cL_follow 2 = .ok (.newarray .int, 2) := by decide +kernel
theorem dL_follow_4 : decode cL_follow 4 = .ok (.astore 6, 2) := by decide +kernel
theorem dL_follow_6 : decode cL_follow 6 = .ok (.iconst 1, 1) := by decide +kernel
theorem dL_follow_7 : decode cL_follow 7 = .ok (.istore 7, 2) := by decide +kernel
theorem dL_follow_9 : decode cL_follow 9 = .ok (.iload 7, 2) := by decide +kernel
theorem dL_follow_11 : decode cL_follow 11 = .ok (.bipush 8, 2) := by decide +kernel
theorem dL_follow_13 : decode cL_follow 13 = .ok (.if_icmp .ge 19, 3) := by decide +kernel
theorem dL_follow_16 : decode cL_follow 16 = .ok (.aload 6, 2) := by decide +kernel
theorem dL_follow_18 : decode cL_follow 18 = .ok (.iload 7, 2) := by decide +kernel
theorem dL_follow_20 : decode cL_follow 20 = .ok (.aload 4, 2) := by decide +kernel
theorem dL_follow_22 : decode cL_follow 22 = .ok (.iload 7, 2) := by decide +kernel
theorem dL_follow_24 : decode cL_follow 24 = .ok (.iaload, 1) := by decide +kernel
theorem dL_follow_25 : decode cL_follow 25 = .ok (.iastore, 1) := by decide +kernel
theorem dL_follow_26 : decode cL_follow 26 = .ok (.iinc 7 1, 3) := by decide +kernel
theorem dL_follow_29 : decode cL_follow 29 = .ok (.goto (-20), 3) := by decide +kernel
theorem dL_follow_32 : decode cL_follow 32 = .ok (.iconst 3, 1) := by decide +kernel
theorem dL_follow_33 : decode cL_follow 33 = .ok (.istore 7, 2) := by decide +kernel
theorem dL_follow_35 : decode cL_follow 35 = .ok (.iload 7, 2) := by decide +kernel
theorem dL_follow_37 : decode cL_follow 37 = .ok (.ifCond .le 198, 3) := by decide +kernel
theorem dL_follow_40 : decode cL_follow 40 = .ok (.aload 5, 2) := by decide +kernel
theorem dL_follow_42 : decode cL_follow 42 = .ok (.bipush 7, 2) := by decide +kernel
theorem dL_follow_44 : decode cL_follow 44 = .ok (.iaload, 1) := by decide +kernel
theorem dL_follow_45 : decode cL_follow 45 = .ok (.ifCond .le 190, 3) := by decide +kernel
theorem dL_follow_48 : decode cL_follow 48 = .ok (.aload 6, 2) := by decide +kernel
theorem dL_follow_50 : decode cL_follow 50 = .ok (.iconst 2, 1) := by decide +kernel
theorem dL_follow_51 : decode cL_follow 51 = .ok (.iload 7, 2) := by decide +kernel
theorem dL_follow_53 : decode cL_follow 53 = .ok (.imul, 1) := by decide +kernel
theorem dL_follow_54 : decode cL_follow 54 = .ok (.iaload, 1) := by decide +kernel
theorem dL_follow_55 : decode cL_follow 55 = .ok (.ifCond .lt 20, 3) := by decide +kernel
theorem dL_follow_58 : decode cL_follow 58 = .ok (.aload 6, 2) := by decide +kernel
theorem dL_follow_60 : decode cL_follow 60 = .ok (.iconst 2, 1) := by decide +kernel
theorem dL_follow_61 : decode cL_follow 61 = .ok (.iload 7, 2) := by decide +kernel
theorem dL_follow_63 : decode cL_follow 63 = .ok (.imul, 1) := by decide +kernel
theorem dL_follow_64 : decode cL_follow 64 = .ok (.iaload, 1) := by decide +kernel
theorem dL_follow_65 : decode cL_follow 65 = .ok (.aload 4, 2) := by decide +kernel
theorem dL_follow_67 : decode cL_follow 67 = .ok (.iconst 2, 1) := by decide +kernel
theorem dL_follow_68 : decode cL_follow 68 = .ok (.iload 7, 2) := by decide +kernel
theorem dL_follow_70 : decode cL_follow 70 = .ok (.imul, 1) := by decide +kernel
theorem dL_follow_71 : decode cL_follow 71 = .ok (.iaload, 1) := by decide +kernel
theorem dL_follow_72 : decode cL_follow 72 = .ok (.if_icmp .ne 36, 3) := by decide +kernel
theorem dL_follow_75 : decode cL_follow 75 = .ok (.aload 6, 2) := by decide +kernel
theorem dL_follow_77 : decode cL_follow 77 = .ok (.iconst 2, 1) := by decide +kernel
theorem dL_follow_78 : decode cL_follow 78 = .ok (.iload 7, 2) := by decide +kernel
theorem dL_follow_80 : decode cL_follow 80 = .ok (.imul, 1) := by decide +kernel
theorem dL_follow_81 : decode cL_follow 81 = .ok (.iconst 1, 1) := by decide +kernel
theorem dL_follow_82 : decode cL_follow 82 = .ok (.iadd, 1) := by decide +kernel
theorem dL_follow_83 : decode cL_follow 83 = .ok (.iaload, 1) := by decide +kernel
theorem dL_follow_84 : decode cL_follow 84 = .ok (.ifCond .lt 28, 3) := by decide +kernel
theorem dL_follow_87 : decode cL_follow 87 = .ok (.aload 6, 2) := by decide +kernel
theorem dL_follow_89 : decode cL_follow 89 = .ok (.iconst 2, 1) := by decide +kernel
theorem dL_follow_90 : decode cL_follow 90 = .ok (.iload 7, 2) := by decide +kernel
theorem dL_follow_92 : decode cL_follow 92 = .ok (.imul, 1) := by decide +kernel
theorem dL_follow_93 : decode cL_follow 93 = .ok (.iconst 1, 1) := by decide +kernel
theorem dL_follow_94 : decode cL_follow 94 = .ok (.iadd, 1) := by decide +kernel
theorem dL_follow_95 : decode cL_follow 95 = .ok (.iaload, 1) := by decide +kernel
theorem dL_follow_96 : decode cL_follow 96 = .ok (.aload 4, 2) := by decide +kernel
theorem dL_follow_98 : decode cL_follow 98 = .ok (.iconst 2, 1) := by decide +kernel
theorem dL_follow_99 : decode cL_follow 99 = .ok (.iload 7, 2) := by decide +kernel
theorem dL_follow_101 : decode cL_follow 101 = .ok (.imul, 1) := by decide +kernel
theorem dL_follow_102 : decode cL_follow 102 = .ok (.iconst 1, 1) := by decide +kernel
theorem dL_follow_103 : decode cL_follow 103 = .ok (.iadd, 1) := by decide +kernel
theorem dL_follow_104 : decode cL_follow 104 = .ok (.iaload, 1) := by decide +kernel
theorem dL_follow_105 : decode cL_follow 105 = .ok (.if_icmp .eq 7, 3) := by decide +kernel
theorem dL_follow_108 : decode cL_follow 108 = .ok (.iconst 1, 1) := by decide +kernel
theorem dL_follow_109 : decode cL_follow 109 = .ok (.goto 4, 3) := by decide +kernel
theorem dL_follow_112 : decode cL_follow 112 = .ok (.iconst 0, 1) := by decide +kernel
theorem dL_follow_113 : decode cL_follow 113 = .ok (.istore 8, 2) := by decide +kernel
theorem dL_follow_115 : decode cL_follow 115 = .ok (.iconst 5, 1) := by decide +kernel
theorem dL_follow_116 : decode cL_follow 116 = .ok (.iload 7, 2) := by decide +kernel
theorem dL_follow_118 : decode cL_follow 118 = .ok (.iadd, 1) := by decide +kernel
theorem dL_follow_119 : decode cL_follow 119 = .ok (.istore 9, 2) := by decide +kernel
theorem dL_follow_121 : decode cL_follow 121 = .ok (.iload 8, 2) := by decide +kernel
theorem dL_follow_123 : decode cL_follow 123 = .ok (.ifCond .eq 65, 3) := by decide +kernel
theorem dL_follow_126 : decode cL_follow 126 = .ok (.aload 5, 2) := by decide +kernel
theorem dL_follow_128 : decode cL_follow 128 = .ok (.bipush 8, 2) := by decide +kernel
theorem dL_follow_130 : decode cL_follow 130 = .ok (.dup2, 1) := by decide +kernel
theorem dL_follow_131 : decode cL_follow 131 = .ok (.iaload, 1) := by decide +kernel
theorem dL_follow_132 : decode cL_follow 132 = .ok (.aload_n 2, 1) := by decide +kernel
theorem dL_follow_133 : decode cL_follow 133 = .ok (.iload 9, 2) := by decide +kernel
theorem dL_follow_135 : decode cL_follow 135 = .ok (.iaload, 1) := by decide +kernel
theorem dL_follow_136 : decode cL_follow 136 = .ok (.ifCond .le 7, 3) := by decide +kernel
theorem dL_follow_139 : decode cL_follow 139 = .ok (.iconst 1, 1) := by decide +kernel
theorem dL_follow_140 : decode cL_follow 140 = .ok (.goto 4, 3) := by decide +kernel
theorem dL_follow_143 : decode cL_follow 143 = .ok (.iconst 0, 1) := by decide +kernel
theorem dL_follow_144 : decode cL_follow 144 = .ok (.iadd, 1) := by decide +kernel
theorem dL_follow_145 : decode cL_follow 145 = .ok (.iastore, 1) := by decide +kernel
theorem dL_follow_146 : decode cL_follow 146 = .ok (.aload_n 2, 1) := by decide +kernel
theorem dL_follow_147 : decode cL_follow 147 = .ok (.iload 9, 2) := by decide +kernel
theorem dL_follow_149 : decode cL_follow 149 = .ok (.iconst 0, 1) := by decide +kernel
theorem dL_follow_150 : decode cL_follow 150 = .ok (.iastore, 1) := by decide +kernel
theorem dL_follow_151 : decode cL_follow 151 = .ok (.aload_n 3, 1) := by decide +kernel
theorem dL_follow_152 : decode cL_follow 152 = .ok (.iconst 2, 1) := by decide +kernel
theorem dL_follow_153 : decode cL_follow 153 = .ok (.iload 9, 2) := by decide +kernel
theorem dL_follow_155 : decode cL_follow 155 = .ok (.imul, 1) := by decide +kernel
theorem dL_follow_156 : decode cL_follow 156 = .ok (.iconst 0, 1) := by decide +kernel
theorem dL_follow_157 : decode cL_follow 157 = .ok (.iastore, 1) := by decide +kernel
theorem dL_follow_158 : decode cL_follow 158 = .ok (.aload_n 3, 1) := by decide +kernel
theorem dL_follow_159 : decode cL_follow 159 = .ok (.iconst 2, 1) := by decide +kernel
theorem dL_follow_160 : decode cL_follow 160 = .ok (.iload 9, 2) := by decide +kernel
theorem dL_follow_162 : decode cL_follow 162 = .ok (.imul, 1) := by decide +kernel
theorem dL_follow_163 : decode cL_follow 163 = .ok (.iconst 1, 1) := by decide +kernel
theorem dL_follow_164 : decode cL_follow 164 = .ok (.iadd, 1) := by decide +kernel
theorem dL_follow_165 : decode cL_follow 165 = .ok (.iconst 0, 1) := by decide +kernel
theorem dL_follow_166 : decode cL_follow 166 = .ok (.iastore, 1) := by decide +kernel
theorem dL_follow_167 : decode cL_follow 167 = .ok (.aload 5, 2) := by decide +kernel
theorem dL_follow_169 : decode cL_follow 169 = .ok (.iconst 1, 1) := by decide +kernel
theorem dL_follow_170 : decode cL_follow 170 = .ok (.aload 5, 2) := by decide +kernel
theorem dL_follow_172 : decode cL_follow 172 = .ok (.iconst 1, 1) := by decide +kernel
theorem dL_follow_173 : decode cL_follow 173 = .ok (.iaload, 1) := by decide +kernel
theorem dL_follow_174 : decode cL_follow 174 = .ok (.iload 9, 2) := by decide +kernel
theorem dL_follow_176 : decode cL_follow 176 = .ok (.if_icmp .ne 7, 3) := by decide +kernel
theorem dL_follow_179 : decode cL_follow 179 = .ok (.iconst (-1), 1) := by decide +kernel
theorem dL_follow_180 : decode cL_follow 180 = .ok (.goto 7, 3) := by decide +kernel
theorem dL_follow_183 : decode cL_follow 183 = .ok (.aload 5, 2) := by decide +kernel
theorem dL_follow_185 : decode cL_follow 185 = .ok (.iconst 1, 1) := by decide +kernel
theorem dL_follow_186 : decode cL_follow 186 = .ok (.iaload, 1) := by decide +kernel
theorem dL_follow_187 : decode cL_follow 187 = .ok (.iastore, 1) := by decide +kernel
theorem dL_follow_188 : decode cL_follow 188 = .ok (.aload 4, 2) := by decide +kernel
theorem dL_follow_190 : decode cL_follow 190 = .ok (.iload 7, 2) := by decide +kernel
theorem dL_follow_192 : decode cL_follow 192 = .ok (.aload 4, 2) := by decide +kernel
theorem dL_follow_194 : decode cL_follow 194 = .ok (.iconst 2, 1) := by decide +kernel
theorem dL_follow_195 : decode cL_follow 195 = .ok (.iload 7, 2) := by decide +kernel
theorem dL_follow_197 : decode cL_follow 197 = .ok (.imul, 1) := by decide +kernel
theorem dL_follow_198 : decode cL_follow 198 = .ok (.iaload, 1) := by decide +kernel
theorem dL_follow_199 : decode cL_follow 199 = .ok (.ifCond .lt 15, 3) := by decide +kernel
theorem dL_follow_202 : decode cL_follow 202 = .ok (.aload 4, 2) := by decide +kernel
theorem dL_follow_204 : decode cL_follow 204 = .ok (.iconst 2, 1) := by decide +kernel
theorem dL_follow_205 : decode cL_follow 205 = .ok (.iload 7, 2) := by decide +kernel
theorem dL_follow_207 : decode cL_follow 207 = .ok (.imul, 1) := by decide +kernel
theorem dL_follow_208 : decode cL_follow 208 = .ok (.iconst 1, 1) := by decide +kernel
theorem dL_follow_209 : decode cL_follow 209 = .ok (.iadd, 1) := by decide +kernel
theorem dL_follow_210 : decode cL_follow 210 = .ok (.iaload, 1) := by decide +kernel
theorem dL_follow_211 : decode cL_follow 211 = .ok (.ifCond .ge 7, 3) := by decide +kernel
theorem dL_follow_214 : decode cL_follow 214 = .ok (.iconst (-1), 1) := by decide +kernel
theorem dL_follow_215 : decode cL_follow 215 = .ok (.goto 13, 3) := by decide +kernel
theorem dL_follow_218 : decode cL_follow 218 = .ok (.aload_n 0, 1) := by decide +kernel
theorem dL_follow_219 : decode cL_follow 219 = .ok (.aload_n 1, 1) := by decide +kernel
theorem dL_follow_220 : decode cL_follow 220 = .ok (.aload_n 2, 1) := by decide +kernel
theorem dL_follow_221 : decode cL_follow 221 = .ok (.aload 4, 2) := by decide +kernel
theorem dL_follow_223 : decode cL_follow 223 = .ok (.iload 9, 2) := by decide +kernel
theorem dL_follow_225 : decode cL_follow 225 = .ok (.invokestatic 31, 3) := by decide +kernel
theorem dL_follow_228 : decode cL_follow 228 = .ok (.iastore, 1) := by decide +kernel
theorem dL_follow_229 : decode cL_follow 229 = .ok (.iinc 7 (-1), 3) := by decide +kernel
theorem dL_follow_232 : decode cL_follow 232 = .ok (.goto (-197), 3) := by decide +kernel
theorem dL_follow_235 : decode cL_follow 235 = .ok (.return_, 1) := by decide +kernel
theorem dL_sum_0 : decode cL_sum 0 = .ok (.iload 5, 2) := by decide +kernel
theorem dL_sum_2 : decode cL_sum 2 = .ok (.ifCond .eq 7, 3) := by decide +kernel
theorem dL_sum_5 : decode cL_sum 5 = .ok (.iconst 0, 1) := by decide +kernel
theorem dL_sum_6 : decode cL_sum 6 = .ok (.goto 5, 3) := by decide +kernel
theorem dL_sum_9 : decode cL_sum 9 = .ok (.bipush 100, 2) := by decide +kernel
theorem dL_sum_11 : decode cL_sum 11 = .ok (.istore 6, 2) := by decide +kernel
theorem dL_sum_13 : decode cL_sum 13 = .ok (.iconst 0, 1) := by decide +kernel
theorem dL_sum_14 : decode cL_sum 14 = .ok (.istore 7, 2) := by decide +kernel
theorem dL_sum_16 : decode cL_sum 16 = .ok (.iload 7, 2) := by decide +kernel
theorem dL_sum_18 : decode cL_sum 18 = .ok (.bipush 6, 2) := by decide +kernel
theorem dL_sum_20 : decode cL_sum 20 = .ok (.if_icmp .ge 157, 3) := by decide +kernel
theorem dL_sum_23 : decode cL_sum 23 = .ok (.aload_n 0, 1) := by decide +kernel
theorem dL_sum_24 : decode cL_sum 24 = .ok (.aload_n 1, 1) := by decide +kernel
theorem dL_sum_25 : decode cL_sum 25 = .ok (.aload_n 2, 1) := by decide +kernel
theorem dL_sum_26 : decode cL_sum 26 = .ok (.iload 7, 2) := by decide +kernel
theorem dL_sum_28 : decode cL_sum 28 = .ok (.invokestatic 23, 3) := by decide +kernel
theorem dL_sum_31 : decode cL_sum 31 = .ok (.istore 8, 2) := by decide +kernel
theorem dL_sum_33 : decode cL_sum 33 = .ok (.aload_n 3, 1) := by decide +kernel
theorem dL_sum_34 : decode cL_sum 34 = .ok (.iload 7, 2) := by decide +kernel
theorem dL_sum_36 : decode cL_sum 36 = .ok (.iconst 0, 1) := by decide +kernel
theorem dL_sum_37 : decode cL_sum 37 = .ok (.invokestatic 27, 3) := by decide +kernel
theorem dL_sum_40 : decode cL_sum 40 = .ok (.iload 4, 2) := by decide +kernel
theorem dL_sum_42 : decode cL_sum 42 = .ok (.if_icmp .ne 7, 3) := by decide +kernel
theorem dL_sum_45 : decode cL_sum 45 = .ok (.iconst 0, 1) := by decide +kernel
theorem dL_sum_46 : decode cL_sum 46 = .ok (.goto 20, 3) := by decide +kernel
theorem dL_sum_49 : decode cL_sum 49 = .ok (.aload_n 3, 1) := by decide +kernel
theorem dL_sum_50 : decode cL_sum 50 = .ok (.iload 7, 2) := by decide +kernel
theorem dL_sum_52 : decode cL_sum 52 = .ok (.iconst 1, 1) := by decide +kernel
theorem dL_sum_53 : decode cL_sum 53 = .ok (.invokestatic 27, 3) := by decide +kernel
theorem dL_sum_56 : decode cL_sum 56 = .ok (.iload 4, 2) := by decide +kernel
theorem dL_sum_58 : decode cL_sum 58 = .ok (.if_icmp .ne 7, 3) := by decide +kernel
theorem dL_sum_61 : decode cL_sum 61 = .ok (.iconst 1, 1) := by decide +kernel
theorem dL_sum_62 : decode cL_sum 62 = .ok (.goto 4, 3) := by decide +kernel
theorem dL_sum_65 : decode cL_sum 65 = .ok (.iconst 2, 1) := by decide +kernel
theorem dL_sum_66 : decode cL_sum 66 = .ok (.istore 9, 2) := by decide +kernel
theorem dL_sum_68 : decode cL_sum 68 = .ok (.iload 8, 2) := by decide +kernel
theorem dL_sum_70 : decode cL_sum 70 = .ok (.bipush 100, 2) := by decide +kernel
theorem dL_sum_72 : decode cL_sum 72 = .ok (.if_icmp .lt 99, 3) := by decide +kernel
theorem dL_sum_75 : decode cL_sum 75 = .ok (.iload 9, 2) := by decide +kernel
theorem dL_sum_77 : decode cL_sum 77 = .ok (.iconst 2, 1) := by decide +kernel
theorem dL_sum_78 : decode cL_sum 78 = .ok (.if_icmp .ge 93, 3) := by decide +kernel
theorem dL_sum_81 : decode cL_sum 81 = .ok (.iload 9, 2) := by decide +kernel
theorem dL_sum_83 : decode cL_sum 83 = .ok (.ifCond .ne 14, 3) := by decide +kernel
theorem dL_sum_86 : decode cL_sum 86 = .ok (.iload 8, 2) := by decide +kernel
theorem dL_sum_88 : decode cL_sum 88 = .ok (.bipush 10, 2) := by decide +kernel
theorem dL_sum_90 : decode cL_sum 90 = .ok (.idiv, 1) := by decide +kernel
theorem dL_sum_91 : decode cL_sum 91 = .ok (.bipush 10, 2) := by decide +kernel
theorem dL_sum_93 : decode cL_sum 93 = .ok (.irem, 1) := by decide +kernel
theorem dL_sum_94 : decode cL_sum 94 = .ok (.goto 8, 3) := by decide +kernel
theorem dL_sum_97 : decode cL_sum 97 = .ok (.iload 8, 2) := by decide +kernel
theorem dL_sum_99 : decode cL_sum 99 = .ok (.bipush 10, 2) := by decide +kernel
theorem dL_sum_101 : decode cL_sum 101 = .ok (.irem, 1) := by decide +kernel
theorem dL_sum_102 : decode cL_sum 102 = .ok (.istore 10, 2) := by decide +kernel
theorem dL_sum_104 : decode cL_sum 104 = .ok (.iload 9, 2) := by decide +kernel
theorem dL_sum_106 : decode cL_sum 106 = .ok (.ifCond .ne 11, 3) := by decide +kernel
theorem dL_sum_109 : decode cL_sum 109 = .ok (.iload 8, 2) := by decide +kernel
theorem dL_sum_111 : decode cL_sum 111 = .ok (.bipush 10, 2) := by decide +kernel
theorem dL_sum_113 : decode cL_sum 113 = .ok (.irem, 1) := by decide +kernel
theorem dL_sum_114 : decode cL_sum 114 = .ok (.goto 11, 3) := by decide +kernel
theorem dL_sum_117 : decode cL_sum 117 = .ok (.iload 8, 2) := by decide +kernel
theorem dL_sum_119 : decode cL_sum 119 = .ok (.bipush 10, 2) := by decide +kernel
theorem dL_sum_121 : decode cL_sum 121 = .ok (.idiv, 1) := by decide +kernel
theorem dL_sum_122 : decode cL_sum 122 = .ok (.bipush 10, 2) := by decide +kernel
theorem dL_sum_124 : decode cL_sum 124 = .ok (.irem, 1) := by decide +kernel
theorem dL_sum_125 : decode cL_sum 125 = .ok (.istore 11, 2) := by decide +kernel
theorem dL_sum_127 : decode cL_sum 127 = .ok (.iload 6, 2) := by decide +kernel
theorem dL_sum_129 : decode cL_sum 129 = .ok (.iload 5, 2) := by decide +kernel
theorem dL_sum_131 : decode cL_sum 131 = .ok (.ifCond .eq 8, 3) := by decide +kernel
theorem dL_sum_134 : decode cL_sum 134 = .ok (.iload 10, 2) := by decide +kernel
theorem dL_sum_136 : decode cL_sum 136 = .ok (.goto 32, 3) := by decide +kernel
theorem dL_sum_139 : decode cL_sum 139 = .ok (.sipush 10000, 3) := by decide +kernel
theorem dL_sum_142 : decode cL_sum 142 = .ok (.iload 8, 2) := by decide +kernel
theorem dL_sum_144 : decode cL_sum 144 = .ok (.bipush 100, 2) := by decide +kernel
theorem dL_sum_146 : decode cL_sum 146 = .ok (.idiv, 1) := by decide +kernel
theorem dL_sum_147 : decode cL_sum 147 = .ok (.iload 9, 2) := by decide +kernel
theorem dL_sum_149 : decode cL_sum 149 = .ok (.iconst 1, 1) := by decide +kernel
theorem dL_sum_150 : decode cL_sum 150 = .ok (.iadd, 1) := by decide +kernel
theorem dL_sum_151 : decode cL_sum 151 = .ok (.if_icmp .ne 9, 3) := by decide +kernel
theorem dL_sum_154 : decode cL_sum 154 = .ok (.sipush 1000, 3) := by decide +kernel
theorem dL_sum_157 : decode cL_sum 157 = .ok (.goto 4, 3) := by decide +kernel
theorem dL_sum_160 : decode cL_sum 160 = .ok (.iconst 0, 1) := by decide +kernel
theorem dL_sum_161 : decode cL_sum 161 = .ok (.iadd, 1) := by decide +kernel
theorem dL_sum_162 : decode cL_sum 162 = .ok (.iload 10, 2) := by decide +kernel
theorem dL_sum_164 : decode cL_sum 164 = .ok (.iadd, 1) := by decide +kernel
theorem dL_sum_165 : decode cL_sum 165 = .ok (.iload 11, 2) := by decide +kernel
theorem dL_sum_167 : decode cL_sum 167 = .ok (.isub, 1) := by decide +kernel
theorem dL_sum_168 : decode cL_sum 168 = .ok (.iadd, 1) := by decide +kernel
theorem dL_sum_169 : decode cL_sum 169 = .ok (.istore 6, 2) := by decide +kernel
theorem dL_sum_171 : decode cL_sum 171 = .ok (.iinc 7 1, 3) := by decide +kernel
theorem dL_sum_174 : decode cL_sum 174 = .ok (.goto (-158), 3) := by decide +kernel
theorem dL_sum_177 : decode cL_sum 177 = .ok (.iload 6, 2) := by decide +kernel
theorem dL_sum_179 : decode cL_sum 179 = .ok (.ireturn, 1) := by decide +kernel
theorem dL_isAhead_0 : decode cL_isAhead 0 = .ok (.aload_n 0, 1) := by decide +kernel
theorem dL_isAhead_1 : decode cL_isAhead 1 = .ok (.aload_n 1, 1) := by decide +kernel
theorem dL_isAhead_2 : decode cL_isAhead 2 = .ok (.aload_n 2, 1) := by decide +kernel
theorem dL_isAhead_3 : decode cL_isAhead 3 = .ok (.aload_n 3, 1) := by decide +kernel
theorem dL_isAhead_4 : decode cL_isAhead 4 = .ok (.iload 4, 2) := by decide +kernel
theorem dL_isAhead_6 : decode cL_isAhead 6 = .ok (.iconst 0, 1) := by decide +kernel
theorem dL_isAhead_7 : decode cL_isAhead 7 = .ok (.invokestatic 35, 3) := by decide +kernel
theorem dL_isAhead_10 : decode cL_isAhead 10 = .ok (.istore 6, 2) := by decide +kernel
theorem dL_isAhead_12 : decode cL_isAhead 12 = .ok (.aload_n 0, 1) := by decide +kernel
theorem dL_isAhead_13 : decode cL_isAhead 13 = .ok (.aload_n 1, 1) := by decide +kernel
theorem dL_isAhead_14 : decode cL_isAhead 14 = .ok (.aload_n 2, 1) := by decide +kernel
theorem dL_isAhead_15 : decode cL_isAhead 15 = .ok (.aload_n 3, 1) := by decide +kernel
theorem dL_isAhead_16 : decode cL_isAhead 16 = .ok (.iload 5, 2) := by decide +kernel
theorem dL_isAhead_18 : decode cL_isAhead 18 = .ok (.iconst 0, 1) := by decide +kernel
theorem dL_isAhead_19 : decode cL_isAhead 19 = .ok (.invokestatic 35, 3) := by decide +kernel
theorem dL_isAhead_22 : decode cL_isAhead 22 = .ok (.istore 7, 2) := by decide +kernel
theorem dL_isAhead_24 : decode cL_isAhead 24 = .ok (.iload 6, 2) := by decide +kernel
theorem dL_isAhead_26 : decode cL_isAhead 26 = .ok (.sipush 1000, 3) := by decide +kernel
theorem dL_isAhead_29 : decode cL_isAhead 29 = .ok (.idiv, 1) := by decide +kernel
theorem dL_isAhead_30 : decode cL_isAhead 30 = .ok (.bipush 10, 2) := by decide +kernel
theorem dL_isAhead_32 : decode cL_isAhead 32 = .ok (.irem, 1) := by decide +kernel
theorem dL_isAhead_33 : decode cL_isAhead 33 = .ok (.iload 7, 2) := by decide +kernel
theorem dL_isAhead_35 : decode cL_isAhead 35 = .ok (.sipush 10000, 3) := by decide +kernel
theorem dL_isAhead_38 : decode cL_isAhead 38 = .ok (.idiv, 1) := by decide +kernel
theorem dL_isAhead_39 : decode cL_isAhead 39 = .ok (.ifCond .le 12, 3) := by decide +kernel
theorem dL_isAhead_42 : decode cL_isAhead 42 = .ok (.iload 7, 2) := by decide +kernel
theorem dL_isAhead_44 : decode cL_isAhead 44 = .ok (.sipush 10000, 3) := by decide +kernel
theorem dL_isAhead_47 : decode cL_isAhead 47 = .ok (.idiv, 1) := by decide +kernel
theorem dL_isAhead_48 : decode cL_isAhead 48 = .ok (.goto 4, 3) := by decide +kernel
theorem dL_isAhead_51 : decode cL_isAhead 51 = .ok (.iconst 1, 1) := by decide +kernel
theorem dL_isAhead_52 : decode cL_isAhead 52 = .ok (.imul, 1) := by decide +kernel
theorem dL_isAhead_53 : decode cL_isAhead 53 = .ok (.istore 8, 2) := by decide +kernel
theorem dL_isAhead_55 : decode cL_isAhead 55 = .ok (.iload 7, 2) := by decide +kernel
theorem dL_isAhead_57 : decode cL_isAhead 57 = .ok (.sipush 1000, 3) := by decide +kernel
theorem dL_isAhead_60 : decode cL_isAhead 60 = .ok (.idiv, 1) := by decide +kernel
theorem dL_isAhead_61 : decode cL_isAhead 61 = .ok (.bipush 10, 2) := by decide +kernel
theorem dL_isAhead_63 : decode cL_isAhead 63 = .ok (.irem, 1) := by decide +kernel
theorem dL_isAhead_64 : decode cL_isAhead 64 = .ok (.iload 6, 2) := by decide +kernel
theorem dL_isAhead_66 : decode cL_isAhead 66 = .ok (.sipush 10000, 3) := by decide +kernel
theorem dL_isAhead_69 : decode cL_isAhead 69 = .ok (.idiv, 1) := by decide +kernel
theorem dL_isAhead_70 : decode cL_isAhead 70 = .ok (.ifCond .le 12, 3) := by decide +kernel
theorem dL_isAhead_73 : decode cL_isAhead 73 = .ok (.iload 6, 2) := by decide +kernel
theorem dL_isAhead_75 : decode cL_isAhead 75 = .ok (.sipush 10000, 3) := by decide +kernel
theorem dL_isAhead_78 : decode cL_isAhead 78 = .ok (.idiv, 1) := by decide +kernel
theorem dL_isAhead_79 : decode cL_isAhead 79 = .ok (.goto 4, 3) := by decide +kernel
theorem dL_isAhead_82 : decode cL_isAhead 82 = .ok (.iconst 1, 1) := by decide +kernel
theorem dL_isAhead_83 : decode cL_isAhead 83 = .ok (.imul, 1) := by decide +kernel
theorem dL_isAhead_84 : decode cL_isAhead 84 = .ok (.istore 9, 2) := by decide +kernel
theorem dL_isAhead_86 : decode cL_isAhead 86 = .ok (.iload 8, 2) := by decide +kernel
theorem dL_isAhead_88 : decode cL_isAhead 88 = .ok (.iload 9, 2) := by decide +kernel
theorem dL_isAhead_90 : decode cL_isAhead 90 = .ok (.if_icmp .eq 11, 3) := by decide +kernel
theorem dL_isAhead_93 : decode cL_isAhead 93 = .ok (.iload 8, 2) := by decide +kernel
theorem dL_isAhead_95 : decode cL_isAhead 95 = .ok (.iload 9, 2) := by decide +kernel
theorem dL_isAhead_97 : decode cL_isAhead 97 = .ok (.isub, 1) := by decide +kernel
theorem dL_isAhead_98 : decode cL_isAhead 98 = .ok (.goto 16, 3) := by decide +kernel
theorem dL_isAhead_101 : decode cL_isAhead 101 = .ok (.iload 6, 2) := by decide +kernel
theorem dL_isAhead_103 : decode cL_isAhead 103 = .ok (.sipush 1000, 3) := by decide +kernel
theorem dL_isAhead_106 : decode cL_isAhead 106 = .ok (.irem, 1) := by decide +kernel
theorem dL_isAhead_107 : decode cL_isAhead 107 = .ok (.iload 7, 2) := by decide +kernel
theorem dL_isAhead_109 : decode cL_isAhead 109 = .ok (.sipush 1000, 3) := by decide +kernel
theorem dL_isAhead_112 : decode cL_isAhead 112 = .ok (.irem, 1) := by decide +kernel
theorem dL_isAhead_113 : decode cL_isAhead 113 = .ok (.isub, 1) := by decide +kernel
theorem dL_isAhead_114 : decode cL_isAhead 114 = .ok (.istore 10, 2) := by decide +kernel
theorem dL_isAhead_116 : decode cL_isAhead 116 = .ok (.iload 10, 2) := by decide +kernel
theorem dL_isAhead_118 : decode cL_isAhead 118 = .ok (.ifCond .eq 8, 3) := by decide +kernel
theorem dL_isAhead_121 : decode cL_isAhead 121 = .ok (.iload 10, 2) := by decide +kernel
theorem dL_isAhead_123 : decode cL_isAhead 123 = .ok (.goto 24, 3) := by decide +kernel
theorem dL_isAhead_126 : decode cL_isAhead 126 = .ok (.aload_n 0, 1) := by decide +kernel
theorem dL_isAhead_127 : decode cL_isAhead 127 = .ok (.aload_n 1, 1) := by decide +kernel
theorem dL_isAhead_128 : decode cL_isAhead 128 = .ok (.aload_n 2, 1) := by decide +kernel
theorem dL_isAhead_129 : decode cL_isAhead 129 = .ok (.aload_n 3, 1) := by decide +kernel
theorem dL_isAhead_130 : decode cL_isAhead 130 = .ok (.iload 4, 2) := by decide +kernel
theorem dL_isAhead_132 : decode cL_isAhead 132 = .ok (.iconst 1, 1) := by decide +kernel
theorem dL_isAhead_133 : decode cL_isAhead 133 = .ok (.invokestatic 35, 3) := by decide +kernel
theorem dL_isAhead_136 : decode cL_isAhead 136 = .ok (.aload_n 0, 1) := by decide +kernel
theorem dL_isAhead_137 : decode cL_isAhead 137 = .ok (.aload_n 1, 1) := by decide +kernel
theorem dL_isAhead_138 : decode cL_isAhead 138 = .ok (.aload_n 2, 1) := by decide +kernel
theorem dL_isAhead_139 : decode cL_isAhead 139 = .ok (.aload_n 3, 1) := by decide +kernel
theorem dL_isAhead_140 : decode cL_isAhead 140 = .ok (.iload 5, 2) := by decide +kernel
theorem dL_isAhead_142 : decode cL_isAhead 142 = .ok (.iconst 1, 1) := by decide +kernel
theorem dL_isAhead_143 : decode cL_isAhead 143 = .ok (.invokestatic 35, 3) := by decide +kernel
theorem dL_isAhead_146 : decode cL_isAhead 146 = .ok (.isub, 1) := by decide +kernel
theorem dL_isAhead_147 : decode cL_isAhead 147 = .ok (.istore 10, 2) := by decide +kernel
theorem dL_isAhead_149 : decode cL_isAhead 149 = .ok (.iload 10, 2) := by decide +kernel
theorem dL_isAhead_151 : decode cL_isAhead 151 = .ok (.ifCond .gt 15, 3) := by decide +kernel
theorem dL_isAhead_154 : decode cL_isAhead 154 = .ok (.iload 10, 2) := by decide +kernel
theorem dL_isAhead_156 : decode cL_isAhead 156 = .ok (.ifCond .ne 14, 3) := by decide +kernel
theorem dL_isAhead_159 : decode cL_isAhead 159 = .ok (.iload 4, 2) := by decide +kernel
theorem dL_isAhead_161 : decode cL_isAhead 161 = .ok (.iload 5, 2) := by decide +kernel
theorem dL_isAhead_163 : decode cL_isAhead 163 = .ok (.if_icmp .ge 7, 3) := by decide +kernel
theorem dL_isAhead_166 : decode cL_isAhead 166 = .ok (.iconst 1, 1) := by decide +kernel
theorem dL_isAhead_167 : decode cL_isAhead 167 = .ok (.goto 4, 3) := by decide +kernel
theorem dL_isAhead_170 : decode cL_isAhead 170 = .ok (.iconst 0, 1) := by decide +kernel
theorem dL_isAhead_171 : decode cL_isAhead 171 = .ok (.ireturn, 1) := by decide +kernel
theorem dL_ranked_0 : decode cL_ranked 0 = .ok (.iconst (-1), 1) := by decide +kernel
theorem dL_ranked_1 : decode cL_ranked 1 = .ok (.istore 5, 2) := by decide +kernel
theorem dL_ranked_3 : decode cL_ranked 3 = .ok (.iconst 0, 1) := by decide +kernel
theorem dL_ranked_4 : decode cL_ranked 4 = .ok (.istore 6, 2) := by decide +kernel
theorem dL_ranked_6 : decode cL_ranked 6 = .ok (.iload 6, 2) := by decide +kernel
theorem dL_ranked_8 : decode cL_ranked 8 = .ok (.iconst 4, 1) := by decide +kernel
theorem dL_ranked_9 : decode cL_ranked 9 = .ok (.if_icmp .ge 74, 3) := by decide +kernel
theorem dL_ranked_12 : decode cL_ranked 12 = .ok (.iconst 0, 1) := by decide +kernel
theorem dL_ranked_13 : decode cL_ranked 13 = .ok (.istore 7, 2) := by decide +kernel
theorem dL_ranked_15 : decode cL_ranked 15 = .ok (.iconst 0, 1) := by decide +kernel
theorem dL_ranked_16 : decode cL_ranked 16 = .ok (.istore 8, 2) := by decide +kernel
theorem dL_ranked_18 : decode cL_ranked 18 = .ok (.iload 8, 2) := by decide +kernel
theorem dL_ranked_20 : decode cL_ranked 20 = .ok (.iconst 4, 1) := by decide +kernel
theorem dL_ranked_21 : decode cL_ranked 21 = .ok (.if_icmp .ge 40, 3) := by decide +kernel
theorem dL_ranked_24 : decode cL_ranked 24 = .ok (.iload 7, 2) := by decide +kernel
theorem dL_ranked_26 : decode cL_ranked 26 = .ok (.iload 6, 2) := by decide +kernel
theorem dL_ranked_28 : decode cL_ranked 28 = .ok (.iload 8, 2) := by decide +kernel
theorem dL_ranked_30 : decode cL_ranked 30 = .ok (.if_icmp .eq 21, 3) := by decide +kernel
theorem dL_ranked_33 : decode cL_ranked 33 = .ok (.aload_n 0, 1) := by decide +kernel
theorem dL_ranked_34 : decode cL_ranked 34 = .ok (.aload_n 1, 1) := by decide +kernel
theorem dL_ranked_35 : decode cL_ranked 35 = .ok (.aload_n 2, 1) := by decide +kernel
theorem dL_ranked_36 : decode cL_ranked 36 = .ok (.aload_n 3, 1) := by decide +kernel
theorem dL_ranked_37 : decode cL_ranked 37 = .ok (.iload 8, 2) := by decide +kernel
theorem dL_ranked_39 : decode cL_ranked 39 = .ok (.iload 6, 2) := by decide +kernel
theorem dL_ranked_41 : decode cL_ranked 41 = .ok (.invokestatic 39, 3) := by decide +kernel
theorem dL_ranked_44 : decode cL_ranked 44 = .ok (.ifCond .eq 7, 3) := by decide +kernel
theorem dL_ranked_47 : decode cL_ranked 47 = .ok (.iconst 1, 1) := by decide +kernel
theorem dL_ranked_48 : decode cL_ranked 48 = .ok (.goto 4, 3) := by decide +kernel
theorem dL_ranked_51 : decode cL_ranked 51 = .ok (.iconst 0, 1) := by decide +kernel
theorem dL_ranked_52 : decode cL_ranked 52 = .ok (.iadd, 1) := by decide +kernel
theorem dL_ranked_53 : decode cL_ranked 53 = .ok (.istore 7, 2) := by decide +kernel
theorem dL_ranked_55 : decode cL_ranked 55 = .ok (.iinc 8 1, 3) := by decide +kernel
theorem dL_ranked_58 : decode cL_ranked 58 = .ok (.goto (-40), 3) := by decide +kernel
theorem dL_ranked_61 : decode cL_ranked 61 = .ok (.iload 7, 2) := by decide +kernel
theorem dL_ranked_63 : decode cL_ranked 63 = .ok (.iload 4, 2) := by decide +kernel
theorem dL_ranked_65 : decode cL_ranked 65 = .ok (.if_icmp .ne 8, 3) := by decide +kernel
theorem dL_ranked_68 : decode cL_ranked 68 = .ok (.iload 6, 2) := by decide +kernel
theorem dL_ranked_70 : decode cL_ranked 70 = .ok (.goto 5, 3) := by decide +kernel
theorem dL_ranked_73 : decode cL_ranked 73 = .ok (.iload 5, 2) := by decide +kernel
theorem dL_ranked_75 : decode cL_ranked 75 = .ok (.istore 5, 2) := by decide +kernel
theorem dL_ranked_77 : decode cL_ranked 77 = .ok (.iinc 6 1, 3) := by decide +kernel
theorem dL_ranked_80 : decode cL_ranked 80 = .ok (.goto (-74), 3) := by decide +kernel
theorem dL_ranked_83 : decode cL_ranked 83 = .ok (.iload 5, 2) := by decide +kernel
theorem dL_ranked_85 : decode cL_ranked 85 = .ok (.ireturn, 1) := by decide +kernel
theorem dL_isTold_0 : decode cL_isTold 0 = .ok (.aload_n 0, 1) := by decide +kernel
theorem dL_isTold_1 : decode cL_isTold 1 = .ok (.invokevirtual 43, 3) := by decide +kernel
theorem dL_isTold_4 : decode cL_isTold 4 = .ok (.aload 6, 2) := by decide +kernel
theorem dL_isTold_6 : decode cL_isTold 6 = .ok (.iconst 1, 1) := by decide +kernel
theorem dL_isTold_7 : decode cL_isTold 7 = .ok (.iaload, 1) := by decide +kernel
theorem dL_isTold_8 : decode cL_isTold 8 = .ok (.ifCond .ge 7, 3) := by decide +kernel
theorem dL_isTold_11 : decode cL_isTold 11 = .ok (.iconst (-1), 1) := by decide +kernel
theorem dL_isTold_12 : decode cL_isTold 12 = .ok (.goto 10, 3) := by decide +kernel
theorem dL_isTold_15 : decode cL_isTold 15 = .ok (.aload 6, 2) := by decide +kernel
theorem dL_isTold_17 : decode cL_isTold 17 = .ok (.iconst 1, 1) := by decide +kernel
theorem dL_isTold_18 : decode cL_isTold 18 = .ok (.iaload, 1) := by decide +kernel
theorem dL_isTold_19 : decode cL_isTold 19 = .ok (.invokestatic 49, 3) := by decide +kernel
theorem dL_isTold_22 : decode cL_isTold 22 = .ok (.if_icmp .ne 82, 3) := by decide +kernel
theorem dL_isTold_25 : decode cL_isTold 25 = .ok (.aload_n 0, 1) := by decide +kernel
theorem dL_isTold_26 : decode cL_isTold 26 = .ok (.invokevirtual 53, 3) := by decide +kernel
theorem dL_isTold_29 : decode cL_isTold 29 = .ok (.aload 6, 2) := by decide +kernel
theorem dL_isTold_31 : decode cL_isTold 31 = .ok (.iconst 4, 1) := by decide +kernel
theorem dL_isTold_32 : decode cL_isTold 32 = .ok (.iaload, 1) := by decide +kernel
theorem dL_isTold_33 : decode cL_isTold 33 = .ok (.iconst 1, 1) := by decide +kernel
theorem dL_isTold_34 : decode cL_isTold 34 = .ok (.if_icmp .ne 7, 3) := by decide +kernel
theorem dL_isTold_37 : decode cL_isTold 37 = .ok (.iconst 1, 1) := by decide +kernel
theorem dL_isTold_38 : decode cL_isTold 38 = .ok (.goto 4, 3) := by decide +kernel
theorem dL_isTold_41 : decode cL_isTold 41 = .ok (.iconst 0, 1) := by decide +kernel
theorem dL_isTold_42 : decode cL_isTold 42 = .ok (.if_icmp .ne 62, 3) := by decide +kernel
theorem dL_isTold_45 : decode cL_isTold 45 = .ok (.aload_n 0, 1) := by decide +kernel
theorem dL_isTold_46 : decode cL_isTold 46 = .ok (.iload 7, 2) := by decide +kernel
theorem dL_isTold_48 : decode cL_isTold 48 = .ok (.iconst 2, 1) := by decide +kernel
theorem dL_isTold_49 : decode cL_isTold 49 = .ok (.irem, 1) := by decide +kernel
theorem dL_isTold_50 : decode cL_isTold 50 = .ok (.invokevirtual 57, 3) := by decide +kernel
theorem dL_isTold_53 : decode cL_isTold 53 = .ok (.aload 6, 2) := by decide +kernel
theorem dL_isTold_55 : decode cL_isTold 55 = .ok (.iconst 1, 1) := by decide +kernel
theorem dL_isTold_56 : decode cL_isTold 56 = .ok (.iaload, 1) := by decide +kernel
theorem dL_isTold_57 : decode cL_isTold 57 = .ok (.ifCond .ge 7, 3) := by decide +kernel
theorem dL_isTold_60 : decode cL_isTold 60 = .ok (.iconst (-1), 1) := by decide +kernel
theorem dL_isTold_61 : decode cL_isTold 61 = .ok (.goto 12, 3) := by decide +kernel
theorem dL_isTold_64 : decode cL_isTold 64 = .ok (.aload 6, 2) := by decide +kernel
theorem dL_isTold_66 : decode cL_isTold 66 = .ok (.iconst 2, 1) := by decide +kernel
theorem dL_isTold_67 : decode cL_isTold 67 = .ok (.iload 7, 2) := by decide +kernel
theorem dL_isTold_69 : decode cL_isTold 69 = .ok (.iconst 2, 1) := by decide +kernel
theorem dL_isTold_70 : decode cL_isTold 70 = .ok (.irem, 1) := by decide +kernel
theorem dL_isTold_71 : decode cL_isTold 71 = .ok (.iadd, 1) := by decide +kernel
theorem dL_isTold_72 : decode cL_isTold 72 = .ok (.iaload, 1) := by decide +kernel
theorem dL_isTold_73 : decode cL_isTold 73 = .ok (.if_icmp .ne 31, 3) := by decide +kernel
theorem dL_isTold_76 : decode cL_isTold 76 = .ok (.aload_n 0, 1) := by decide +kernel
theorem dL_isTold_77 : decode cL_isTold 77 = .ok (.invokevirtual 60, 3) := by decide +kernel
theorem dL_isTold_80 : decode cL_isTold 80 = .ok (.aload 6, 2) := by decide +kernel
theorem dL_isTold_82 : decode cL_isTold 82 = .ok (.bipush 7, 2) := by decide +kernel
theorem dL_isTold_84 : decode cL_isTold 84 = .ok (.iaload, 1) := by decide +kernel
theorem dL_isTold_85 : decode cL_isTold 85 = .ok (.if_icmp .ne 19, 3) := by decide +kernel
theorem dL_isTold_88 : decode cL_isTold 88 = .ok (.aload_n 0, 1) := by decide +kernel
theorem dL_isTold_89 : decode cL_isTold 89 = .ok (.invokevirtual 63, 3) := by decide +kernel
theorem dL_isTold_92 : decode cL_isTold 92 = .ok (.aload 6, 2) := by decide +kernel
theorem dL_isTold_94 : decode cL_isTold 94 = .ok (.bipush 8, 2) := by decide +kernel
theorem dL_isTold_96 : decode cL_isTold 96 = .ok (.iaload, 1) := by decide +kernel
theorem dL_isTold_97 : decode cL_isTold 97 = .ok (.if_icmp .ne 7, 3) := by decide +kernel
theorem dL_isTold_100 : decode cL_isTold 100 = .ok (.iconst 1, 1) := by decide +kernel
theorem dL_isTold_101 : decode cL_isTold 101 = .ok (.goto 4, 3) := by decide +kernel
theorem dL_isTold_104 : decode cL_isTold 104 = .ok (.iconst 0, 1) := by decide +kernel
theorem dL_isTold_105 : decode cL_isTold 105 = .ok (.istore 8, 2) := by decide +kernel
theorem dL_isTold_107 : decode cL_isTold 107 = .ok (.iconst 0, 1) := by decide +kernel
theorem dL_isTold_108 : decode cL_isTold 108 = .ok (.istore 9, 2) := by decide +kernel
theorem dL_isTold_110 : decode cL_isTold 110 = .ok (.iload 9, 2) := by decide +kernel
theorem dL_isTold_112 : decode cL_isTold 112 = .ok (.aload 6, 2) := by decide +kernel
theorem dL_isTold_114 : decode cL_isTold 114 = .ok (.bipush 7, 2) := by decide +kernel
theorem dL_isTold_116 : decode cL_isTold 116 = .ok (.iaload, 1) := by decide +kernel
theorem dL_isTold_117 : decode cL_isTold 117 = .ok (.ifCond .le 8, 3) := by decide +kernel
theorem dL_isTold_120 : decode cL_isTold 120 = .ok (.bipush 9, 2) := by decide +kernel
theorem dL_isTold_122 : decode cL_isTold 122 = .ok (.goto 5, 3) := by decide +kernel
theorem dL_isTold_125 : decode cL_isTold 125 = .ok (.bipush 6, 2) := by decide +kernel
theorem dL_isTold_127 : decode cL_isTold 127 = .ok (.if_icmp .ge 246, 3) := by decide +kernel
theorem dL_isTold_130 : decode cL_isTold 130 = .ok (.iload 8, 2) := by decide +kernel
theorem dL_isTold_132 : decode cL_isTold 132 = .ok (.ifCond .eq 241, 3) := by decide +kernel
theorem dL_isTold_135 : decode cL_isTold 135 = .ok (.aload_n 1, 1) := by decide +kernel
theorem dL_isTold_136 : decode cL_isTold 136 = .ok (.aload_n 2, 1) := by decide +kernel
theorem dL_isTold_137 : decode cL_isTold 137 = .ok (.aload_n 3, 1) := by decide +kernel
theorem dL_isTold_138 : decode cL_isTold 138 = .ok (.iload 9, 2) := by decide +kernel
theorem dL_isTold_140 : decode cL_isTold 140 = .ok (.invokestatic 23, 3) := by decide +kernel
theorem dL_isTold_143 : decode cL_isTold 143 = .ok (.istore 10, 2) := by decide +kernel
theorem dL_isTold_145 : decode cL_isTold 145 = .ok (.iload 7, 2) := by decide +kernel
theorem dL_isTold_147 : decode cL_isTold 147 = .ok (.iload 9, 2) := by decide +kernel
theorem dL_isTold_149 : decode cL_isTold 149 = .ok (.iadd, 1) := by decide +kernel
theorem dL_isTold_150 : decode cL_isTold 150 = .ok (.iconst 2, 1) := by decide +kernel
theorem dL_isTold_151 : decode cL_isTold 151 = .ok (.irem, 1) := by decide +kernel
theorem dL_isTold_152 : decode cL_isTold 152 = .ok (.istore 11, 2) := by decide +kernel
theorem dL_isTold_154 : decode cL_isTold 154 = .ok (.iload 9, 2) := by decide +kernel
theorem dL_isTold_156 : decode cL_isTold 156 = .ok (.invokestatic 49, 3) := by decide +kernel
theorem dL_isTold_159 : decode cL_isTold 159 = .ok (.istore 12, 2) := by decide +kernel
theorem dL_isTold_161 : decode cL_isTold 161 = .ok (.aload_n 0, 1) := by decide +kernel
theorem dL_isTold_162 : decode cL_isTold 162 = .ok (.iload 12, 2) := by decide +kernel
theorem dL_isTold_164 : decode cL_isTold 164 = .ok (.invokevirtual 66, 3) := by decide +kernel
theorem dL_isTold_167 : decode cL_isTold 167 = .ok (.aload_n 3, 1) := by decide +kernel
theorem dL_isTold_168 : decode cL_isTold 168 = .ok (.iload 9, 2) := by decide +kernel
theorem dL_isTold_170 : decode cL_isTold 170 = .ok (.iaload, 1) := by decide +kernel
theorem dL_isTold_171 : decode cL_isTold 171 = .ok (.if_icmp .ne 143, 3) := by decide +kernel
theorem dL_isTold_174 : decode cL_isTold 174 = .ok (.aload_n 0, 1) := by decide +kernel
theorem dL_isTold_175 : decode cL_isTold 175 = .ok (.iload 12, 2) := by decide +kernel
theorem dL_isTold_177 : decode cL_isTold 177 = .ok (.iload 11, 2) := by decide +kernel
theorem dL_isTold_179 : decode cL_isTold 179 = .ok (.invokevirtual 69, 3) := by decide +kernel
theorem dL_isTold_182 : decode cL_isTold 182 = .ok (.iload 11, 2) := by decide +kernel
theorem dL_isTold_184 : decode cL_isTold 184 = .ok (.ifCond .ne 14, 3) := by decide +kernel
theorem dL_isTold_187 : decode cL_isTold 187 = .ok (.iload 10, 2) := by decide +kernel
theorem dL_isTold_189 : decode cL_isTold 189 = .ok (.bipush 10, 2) := by decide +kernel
theorem dL_isTold_191 : decode cL_isTold 191 = .ok (.idiv, 1) := by decide +kernel
theorem dL_isTold_192 : decode cL_isTold 192 = .ok (.bipush 10, 2) := by decide +kernel
theorem dL_isTold_194 : decode cL_isTold 194 = .ok (.irem, 1) := by decide +kernel
theorem dL_isTold_195 : decode cL_isTold 195 = .ok (.goto 8, 3) := by decide +kernel
theorem dL_isTold_198 : decode cL_isTold 198 = .ok (.iload 10, 2) := by decide +kernel
theorem dL_isTold_200 : decode cL_isTold 200 = .ok (.bipush 10, 2) := by decide +kernel
theorem dL_isTold_202 : decode cL_isTold 202 = .ok (.irem, 1) := by decide +kernel
theorem dL_isTold_203 : decode cL_isTold 203 = .ok (.if_icmp .ne 111, 3) := by decide +kernel
theorem dL_isTold_206 : decode cL_isTold 206 = .ok (.iload 7, 2) := by decide +kernel
theorem dL_isTold_208 : decode cL_isTold 208 = .ok (.iconst 5, 1) := by decide +kernel
theorem dL_isTold_209 : decode cL_isTold 209 = .ok (.irem, 1) := by decide +kernel
theorem dL_isTold_210 : decode cL_isTold 210 = .ok (.ifCond .gt 22, 3) := by decide +kernel
theorem dL_isTold_213 : decode cL_isTold 213 = .ok (.aload_n 0, 1) := by decide +kernel
theorem dL_isTold_214 : decode cL_isTold 214 = .ok (.iload 12, 2) := by decide +kernel
theorem dL_isTold_216 : decode cL_isTold 216 = .ok (.iload 11, 2) := by decide +kernel
theorem dL_isTold_218 : decode cL_isTold 218 = .ok (.invokevirtual 73, 3) := by decide +kernel
theorem dL_isTold_221 : decode cL_isTold 221 = .ok (.aload_n 0, 1) := by decide +kernel
theorem dL_isTold_222 : decode cL_isTold 222 = .ok (.iload 12, 2) := by decide +kernel
theorem dL_isTold_224 : decode cL_isTold 224 = .ok (.iload 11, 2) := by decide +kernel
theorem dL_isTold_226 : decode cL_isTold 226 = .ok (.invokevirtual 69, 3) := by decide +kernel
theorem dL_isTold_229 : decode cL_isTold 229 = .ok (.if_icmp .ne 85, 3) := by decide +kernel
theorem dL_isTold_232 : decode cL_isTold 232 = .ok (.aload_n 0, 1) := by decide +kernel
theorem dL_isTold_233 : decode cL_isTold 233 = .ok (.iload 12, 2) := by decide +kernel
theorem dL_isTold_235 : decode cL_isTold 235 = .ok (.iload 11, 2) := by decide +kernel
theorem dL_isTold_237 : decode cL_isTold 237 = .ok (.invokevirtual 76, 3) := by decide +kernel
theorem dL_isTold_240 : decode cL_isTold 240 = .ok (.iconst 2, 1) := by decide +kernel
theorem dL_isTold_241 : decode cL_isTold 241 = .ok (.aload 4, 2) := by decide +kernel
theorem dL_isTold_243 : decode cL_isTold 243 = .ok (.iconst 2, 1) := by decide +kernel
theorem dL_isTold_244 : decode cL_isTold 244 = .ok (.iload 9, 2) := by decide +kernel
theorem dL_isTold_246 : decode cL_isTold 246 = .ok (.imul, 1) := by decide +kernel
theorem dL_isTold_247 : decode cL_isTold 247 = .ok (.iload 11, 2) := by decide +kernel
theorem dL_isTold_249 : decode cL_isTold 249 = .ok (.iadd, 1) := by decide +kernel
theorem dL_isTold_250 : decode cL_isTold 250 = .ok (.iaload, 1) := by decide +kernel
theorem dL_isTold_251 : decode cL_isTold 251 = .ok (.isub, 1) := by decide +kernel
theorem dL_isTold_252 : decode cL_isTold 252 = .ok (.if_icmp .ne 62, 3) := by decide +kernel
theorem dL_isTold_255 : decode cL_isTold 255 = .ok (.aload_n 0, 1) := by decide +kernel
theorem dL_isTold_256 : decode cL_isTold 256 = .ok (.iload 12, 2) := by decide +kernel
theorem dL_isTold_258 : decode cL_isTold 258 = .ok (.iload 11, 2) := by decide +kernel
theorem dL_isTold_260 : decode cL_isTold 260 = .ok (.invokevirtual 79, 3) := by decide +kernel
theorem dL_isTold_263 : decode cL_isTold 263 = .ok (.aload 5, 2) := by decide +kernel
theorem dL_isTold_265 : decode cL_isTold 265 = .ok (.iload 9, 2) := by decide +kernel
theorem dL_isTold_267 : decode cL_isTold 267 = .ok (.iload 11, 2) := by decide +kernel
theorem dL_isTold_269 : decode cL_isTold 269 = .ok (.invokestatic 27, 3) := by decide +kernel
theorem dL_isTold_272 : decode cL_isTold 272 = .ok (.if_icmp .ne 42, 3) := by decide +kernel
theorem dL_isTold_275 : decode cL_isTold 275 = .ok (.aload_n 0, 1) := by decide +kernel
theorem dL_isTold_276 : decode cL_isTold 276 = .ok (.iload 12, 2) := by decide +kernel
theorem dL_isTold_278 : decode cL_isTold 278 = .ok (.invokevirtual 82, 3) := by decide +kernel
theorem dL_isTold_281 : decode cL_isTold 281 = .ok (.iload 9, 2) := by decide +kernel
theorem dL_isTold_283 : decode cL_isTold 283 = .ok (.iconst 5, 1) := by decide +kernel
theorem dL_isTold_284 : decode cL_isTold 284 = .ok (.if_icmp .le 13, 3) := by decide +kernel
theorem dL_isTold_287 : decode cL_isTold 287 = .ok (.aload 5, 2) := by decide +kernel
theorem dL_isTold_289 : decode cL_isTold 289 = .ok (.iload 9, 2) := by decide +kernel
theorem dL_isTold_291 : decode cL_isTold 291 = .ok (.iconst 5, 1) := by decide +kernel
theorem dL_isTold_292 : decode cL_isTold 292 = .ok (.isub, 1) := by decide +kernel
theorem dL_isTold_293 : decode cL_isTold 293 = .ok (.iaload, 1) := by decide +kernel
theorem dL_isTold_294 : decode cL_isTold 294 = .ok (.goto 13, 3) := by decide +kernel
theorem dL_isTold_297 : decode cL_isTold 297 = .ok (.aload_n 1, 1) := by decide +kernel
theorem dL_isTold_298 : decode cL_isTold 298 = .ok (.aload_n 2, 1) := by decide +kernel
theorem dL_isTold_299 : decode cL_isTold 299 = .ok (.aload_n 3, 1) := by decide +kernel
theorem dL_isTold_300 : decode cL_isTold 300 = .ok (.aload 5, 2) := by decide +kernel
theorem dL_isTold_302 : decode cL_isTold 302 = .ok (.iload 9, 2) := by decide +kernel
theorem dL_isTold_304 : decode cL_isTold 304 = .ok (.invokestatic 31, 3) := by decide +kernel
theorem dL_isTold_307 : decode cL_isTold 307 = .ok (.if_icmp .ne 7, 3) := by decide +kernel
theorem dL_isTold_310 : decode cL_isTold 310 = .ok (.iconst 1, 1) := by decide +kernel
theorem dL_isTold_311 : decode cL_isTold 311 = .ok (.goto 4, 3) := by decide +kernel
theorem dL_isTold_314 : decode cL_isTold 314 = .ok (.iconst 0, 1) := by decide +kernel
theorem dL_isTold_315 : decode cL_isTold 315 = .ok (.istore 8, 2) := by decide +kernel
theorem dL_isTold_317 : decode cL_isTold 317 = .ok (.iconst 0, 1) := by decide +kernel
theorem dL_isTold_318 : decode cL_isTold 318 = .ok (.istore 13, 2) := by decide +kernel
theorem dL_isTold_320 : decode cL_isTold 320 = .ok (.iload 13, 2) := by decide +kernel
theorem dL_isTold_322 : decode cL_isTold 322 = .ok (.aload_n 3, 1) := by decide +kernel
theorem dL_isTold_323 : decode cL_isTold 323 = .ok (.iload 9, 2) := by decide +kernel
theorem dL_isTold_325 : decode cL_isTold 325 = .ok (.iaload, 1) := by decide +kernel
theorem dL_isTold_326 : decode cL_isTold 326 = .ok (.if_icmp .ge 41, 3) := by decide +kernel
theorem dL_isTold_329 : decode cL_isTold 329 = .ok (.iload 8, 2) := by decide +kernel
theorem dL_isTold_331 : decode cL_isTold 331 = .ok (.ifCond .eq 36, 3) := by decide +kernel
theorem dL_isTold_334 : decode cL_isTold 334 = .ok (.aload_n 0, 1) := by decide +kernel
theorem dL_isTold_335 : decode cL_isTold 335 = .ok (.iload 12, 2) := by decide +kernel
theorem dL_isTold_337 : decode cL_isTold 337 = .ok (.iload 13, 2) := by decide +kernel
theorem dL_isTold_339 : decode cL_isTold 339 = .ok (.invokevirtual 84, 3) := by decide +kernel
theorem dL_isTold_342 : decode cL_isTold 342 = .ok (.aload_n 1, 1) := by decide +kernel
theorem dL_isTold_343 : decode cL_isTold 343 = .ok (.aload_n 2, 1) := by decide +kernel
theorem dL_isTold_344 : decode cL_isTold 344 = .ok (.iload 9, 2) := by decide +kernel
theorem dL_isTold_346 : decode cL_isTold 346 = .ok (.iload 13, 2) := by decide +kernel
theorem dL_isTold_348 : decode cL_isTold 348 = .ok (.invokestatic 19, 3) := by decide +kernel
theorem dL_isTold_351 : decode cL_isTold 351 = .ok (.if_icmp .ne 7, 3) := by decide +kernel
theorem dL_isTold_354 : decode cL_isTold 354 = .ok (.iconst 1, 1) := by decide +kernel
theorem dL_isTold_355 : decode cL_isTold 355 = .ok (.goto 4, 3) := by decide +kernel
theorem dL_isTold_358 : decode cL_isTold 358 = .ok (.iconst 0, 1) := by decide +kernel
theorem dL_isTold_359 : decode cL_isTold 359 = .ok (.istore 8, 2) := by decide +kernel
theorem dL_isTold_361 : decode cL_isTold 361 = .ok (.iinc 13 1, 3) := by decide +kernel
theorem dL_isTold_364 : decode cL_isTold 364 = .ok (.goto (-44), 3) := by decide +kernel
theorem dL_isTold_367 : decode cL_isTold 367 = .ok (.iinc 9 1, 3) := by decide +kernel
theorem dL_isTold_370 : decode cL_isTold 370 = .ok (.goto (-260), 3) := by decide +kernel
theorem dL_isTold_373 : decode cL_isTold 373 = .ok (.iconst 1, 1) := by decide +kernel
theorem dL_isTold_374 : decode cL_isTold 374 = .ok (.istore 9, 2) := by decide +kernel
theorem dL_isTold_376 : decode cL_isTold 376 = .ok (.iload 9, 2) := by decide +kernel
theorem dL_isTold_378 : decode cL_isTold 378 = .ok (.bipush 8, 2) := by decide +kernel
theorem dL_isTold_380 : decode cL_isTold 380 = .ok (.if_icmp .ge 43, 3) := by decide +kernel
theorem dL_isTold_383 : decode cL_isTold 383 = .ok (.iload 8, 2) := by decide +kernel
theorem dL_isTold_385 : decode cL_isTold 385 = .ok (.ifCond .eq 38, 3) := by decide +kernel
theorem dL_isTold_388 : decode cL_isTold 388 = .ok (.aload 6, 2) := by decide +kernel
theorem dL_isTold_390 : decode cL_isTold 390 = .ok (.bipush 7, 2) := by decide +kernel
theorem dL_isTold_392 : decode cL_isTold 392 = .ok (.iaload, 1) := by decide +kernel
theorem dL_isTold_393 : decode cL_isTold 393 = .ok (.ifCond .le 30, 3) := by decide +kernel
theorem dL_isTold_396 : decode cL_isTold 396 = .ok (.aload_n 0, 1) := by decide +kernel
theorem dL_isTold_397 : decode cL_isTold 397 = .ok (.iload 9, 2) := by decide +kernel
theorem dL_isTold_399 : decode cL_isTold 399 = .ok (.invokevirtual 86, 3) := by decide +kernel
theorem dL_isTold_402 : decode cL_isTold 402 = .ok (.aload 5, 2) := by decide +kernel
theorem dL_isTold_404 : decode cL_isTold 404 = .ok (.iload 9, 2) := by decide +kernel
theorem dL_isTold_406 : decode cL_isTold 406 = .ok (.iaload, 1) := by decide +kernel
theorem dL_isTold_407 : decode cL_isTold 407 = .ok (.if_icmp .ne 7, 3) := by decide +kernel
theorem dL_isTold_410 : decode cL_isTold 410 = .ok (.iconst 1, 1) := by decide +kernel
theorem dL_isTold_411 : decode cL_isTold 411 = .ok (.goto 4, 3) := by decide +kernel
theorem dL_isTold_414 : decode cL_isTold 414 = .ok (.iconst 0, 1) := by decide +kernel
theorem dL_isTold_415 : decode cL_isTold 415 = .ok (.istore 8, 2) := by decide +kernel
theorem dL_isTold_417 : decode cL_isTold 417 = .ok (.iinc 9 1, 3) := by decide +kernel
theorem dL_isTold_420 : decode cL_isTold 420 = .ok (.goto (-44), 3) := by decide +kernel
theorem dL_isTold_423 : decode cL_isTold 423 = .ok (.iconst 0, 1) := by decide +kernel
theorem dL_isTold_424 : decode cL_isTold 424 = .ok (.istore 9, 2) := by decide +kernel
theorem dL_isTold_426 : decode cL_isTold 426 = .ok (.iload 9, 2) := by decide +kernel
theorem dL_isTold_428 : decode cL_isTold 428 = .ok (.aload 6, 2) := by decide +kernel
theorem dL_isTold_430 : decode cL_isTold 430 = .ok (.iconst 0, 1) := by decide +kernel
theorem dL_isTold_431 : decode cL_isTold 431 = .ok (.iaload, 1) := by decide +kernel
theorem dL_isTold_432 : decode cL_isTold 432 = .ok (.if_icmp .ge 69, 3) := by decide +kernel
theorem dL_isTold_435 : decode cL_isTold 435 = .ok (.iload 8, 2) := by decide +kernel
theorem dL_isTold_437 : decode cL_isTold 437 = .ok (.ifCond .eq 64, 3) := by decide +kernel
theorem dL_isTold_440 : decode cL_isTold 440 = .ok (.aload_n 0, 1) := by decide +kernel
theorem dL_isTold_441 : decode cL_isTold 441 = .ok (.iload 9, 2) := by decide +kernel
theorem dL_isTold_443 : decode cL_isTold 443 = .ok (.invokevirtual 89, 3) := by decide +kernel
theorem dL_isTold_446 : decode cL_isTold 446 = .ok (.aload_n 1, 1) := by decide +kernel
theorem dL_isTold_447 : decode cL_isTold 447 = .ok (.iconst 2, 1) := by decide +kernel
theorem dL_isTold_448 : decode cL_isTold 448 = .ok (.iload 9, 2) := by decide +kernel
theorem dL_isTold_450 : decode cL_isTold 450 = .ok (.imul, 1) := by decide +kernel
theorem dL_isTold_451 : decode cL_isTold 451 = .ok (.iaload, 1) := by decide +kernel
theorem dL_isTold_452 : decode cL_isTold 452 = .ok (.if_icmp .ne 40, 3) := by decide +kernel
theorem dL_isTold_455 : decode cL_isTold 455 = .ok (.aload_n 0, 1) := by decide +kernel
theorem dL_isTold_456 : decode cL_isTold 456 = .ok (.iload 9, 2) := by decide +kernel
theorem dL_isTold_458 : decode cL_isTold 458 = .ok (.invokevirtual 92, 3) := by decide +kernel
theorem dL_isTold_461 : decode cL_isTold 461 = .ok (.aload_n 1, 1) := by decide +kernel
theorem dL_isTold_462 : decode cL_isTold 462 = .ok (.iconst 2, 1) := by decide +kernel
theorem dL_isTold_463 : decode cL_isTold 463 = .ok (.iload 9, 2) := by decide +kernel
theorem dL_isTold_465 : decode cL_isTold 465 = .ok (.imul, 1) := by decide +kernel
theorem dL_isTold_466 : decode cL_isTold 466 = .ok (.iconst 1, 1) := by decide +kernel
theorem dL_isTold_467 : decode cL_isTold 467 = .ok (.iadd, 1) := by decide +kernel
theorem dL_isTold_468 : decode cL_isTold 468 = .ok (.iaload, 1) := by decide +kernel
theorem dL_isTold_469 : decode cL_isTold 469 = .ok (.iconst 3, 1) := by decide +kernel
theorem dL_isTold_470 : decode cL_isTold 470 = .ok (.if_icmp .ne 7, 3) := by decide +kernel
theorem dL_isTold_473 : decode cL_isTold 473 = .ok (.iconst 2, 1) := by decide +kernel
theorem dL_isTold_474 : decode cL_isTold 474 = .ok (.goto 11, 3) := by decide +kernel
theorem dL_isTold_477 : decode cL_isTold 477 = .ok (.aload_n 1, 1) := by decide +kernel
theorem dL_isTold_478 : decode cL_isTold 478 = .ok (.iconst 2, 1) := by decide +kernel
theorem dL_isTold_479 : decode cL_isTold 479 = .ok (.iload 9, 2) := by decide +kernel
theorem dL_isTold_481 : decode cL_isTold 481 = .ok (.imul, 1) := by decide +kernel
theorem dL_isTold_482 : decode cL_isTold 482 = .ok (.iconst 1, 1) := by decide +kernel
theorem dL_isTold_483 : decode cL_isTold 483 = .ok (.iadd, 1) := by decide +kernel
theorem dL_isTold_484 : decode cL_isTold 484 = .ok (.iaload, 1) := by decide +kernel
theorem dL_isTold_485 : decode cL_isTold 485 = .ok (.if_icmp .ne 7, 3) := by decide +kernel
theorem dL_isTold_488 : decode cL_isTold 488 = .ok (.iconst 1, 1) := by decide +kernel
theorem dL_isTold_489 : decode cL_isTold 489 = .ok (.goto 4, 3) := by decide +kernel
theorem dL_isTold_492 : decode cL_isTold 492 = .ok (.iconst 0, 1) := by decide +kernel
theorem dL_isTold_493 : decode cL_isTold 493 = .ok (.istore 8, 2) := by decide +kernel
theorem dL_isTold_495 : decode cL_isTold 495 = .ok (.iinc 9 1, 3) := by decide +kernel
theorem dL_isTold_498 : decode cL_isTold 498 = .ok (.goto (-72), 3) := by decide +kernel
theorem dL_isTold_501 : decode cL_isTold 501 = .ok (.iload 7, 2) := by decide +kernel
theorem dL_isTold_503 : decode cL_isTold 503 = .ok (.iconst 4, 1) := by decide +kernel
theorem dL_isTold_504 : decode cL_isTold 504 = .ok (.irem, 1) := by decide +kernel
theorem dL_isTold_505 : decode cL_isTold 505 = .ok (.istore 9, 2) := by decide +kernel
theorem dL_isTold_507 : decode cL_isTold 507 = .ok (.aload_n 1, 1) := by decide +kernel
theorem dL_isTold_508 : decode cL_isTold 508 = .ok (.aload_n 2, 1) := by decide +kernel
theorem dL_isTold_509 : decode cL_isTold 509 = .ok (.aload_n 3, 1) := by decide +kernel
theorem dL_isTold_510 : decode cL_isTold 510 = .ok (.aload 5, 2) := by decide +kernel
theorem dL_isTold_512 : decode cL_isTold 512 = .ok (.iload 9, 2) := by decide +kernel
theorem dL_isTold_514 : decode cL_isTold 514 = .ok (.iconst 0, 1) := by decide +kernel
theorem dL_isTold_515 : decode cL_isTold 515 = .ok (.invokestatic 35, 3) := by decide +kernel
theorem dL_isTold_518 : decode cL_isTold 518 = .ok (.istore 10, 2) := by decide +kernel
theorem dL_isTold_520 : decode cL_isTold 520 = .ok (.iload 8, 2) := by decide +kernel
theorem dL_isTold_522 : decode cL_isTold 522 = .ok (.ifCond .eq 69, 3) := by decide +kernel
theorem dL_isTold_525 : decode cL_isTold 525 = .ok (.aload_n 0, 1) := by decide +kernel
theorem dL_isTold_526 : decode cL_isTold 526 = .ok (.iload 9, 2) := by decide +kernel
theorem dL_isTold_528 : decode cL_isTold 528 = .ok (.invokevirtual 95, 3) := by decide +kernel
theorem dL_isTold_531 : decode cL_isTold 531 = .ok (.iload 10, 2) := by decide +kernel
theorem dL_isTold_533 : decode cL_isTold 533 = .ok (.sipush 1000, 3) := by decide +kernel
theorem dL_isTold_536 : decode cL_isTold 536 = .ok (.idiv, 1) := by decide +kernel
theorem dL_isTold_537 : decode cL_isTold 537 = .ok (.bipush 10, 2) := by decide +kernel
theorem dL_isTold_539 : decode cL_isTold 539 = .ok (.irem, 1) := by decide +kernel
theorem dL_isTold_540 : decode cL_isTold 540 = .ok (.if_icmp .ne 51, 3) := by decide +kernel
theorem dL_isTold_543 : decode cL_isTold 543 = .ok (.aload_n 0, 1) := by decide +kernel
theorem dL_isTold_544 : decode cL_isTold 544 = .ok (.iload 9, 2) := by decide +kernel
theorem dL_isTold_546 : decode cL_isTold 546 = .ok (.invokevirtual 98, 3) := by decide +kernel
theorem dL_isTold_549 : decode cL_isTold 549 = .ok (.iload 10, 2) := by decide +kernel
theorem dL_isTold_551 : decode cL_isTold 551 = .ok (.sipush 1000, 3) := by decide +kernel
theorem dL_isTold_554 : decode cL_isTold 554 = .ok (.irem, 1) := by decide +kernel
theorem dL_isTold_555 : decode cL_isTold 555 = .ok (.bipush 100, 2) := by decide +kernel
theorem dL_isTold_557 : decode cL_isTold 557 = .ok (.isub, 1) := by decide +kernel
theorem dL_isTold_558 : decode cL_isTold 558 = .ok (.if_icmp .ne 33, 3) := by decide +kernel
theorem dL_isTold_561 : decode cL_isTold 561 = .ok (.iload 7, 2) := by decide +kernel
theorem dL_isTold_563 : decode cL_isTold 563 = .ok (.iconst 3, 1) := by decide +kernel
theorem dL_isTold_564 : decode cL_isTold 564 = .ok (.irem, 1) := by decide +kernel
theorem dL_isTold_565 : decode cL_isTold 565 = .ok (.ifCond .gt 22, 3) := by decide +kernel
theorem dL_isTold_568 : decode cL_isTold 568 = .ok (.aload_n 0, 1) := by decide +kernel
theorem dL_isTold_569 : decode cL_isTold 569 = .ok (.iload 9, 2) := by decide +kernel
theorem dL_isTold_571 : decode cL_isTold 571 = .ok (.invokevirtual 101, 3) := by decide +kernel
theorem dL_isTold_574 : decode cL_isTold 574 = .ok (.aload_n 1, 1) := by decide +kernel
theorem dL_isTold_575 : decode cL_isTold 575 = .ok (.aload_n 2, 1) := by decide +kernel
theorem dL_isTold_576 : decode cL_isTold 576 = .ok (.aload_n 3, 1) := by decide +kernel
theorem dL_isTold_577 : decode cL_isTold 577 = .ok (.aload 5, 2) := by decide +kernel
theorem dL_isTold_579 : decode cL_isTold 579 = .ok (.iload 9, 2) := by decide +kernel
theorem dL_isTold_581 : decode cL_isTold 581 = .ok (.invokestatic 104, 3) := by decide +kernel
theorem dL_isTold_584 : decode cL_isTold 584 = .ok (.if_icmp .ne 7, 3) := by decide +kernel
theorem dL_isTold_587 : decode cL_isTold 587 = .ok (.iconst 1, 1) := by decide +kernel
theorem dL_isTold_588 : decode cL_isTold 588 = .ok (.goto 4, 3) := by decide +kernel
theorem dL_isTold_591 : decode cL_isTold 591 = .ok (.iconst 0, 1) := by decide +kernel
theorem dL_isTold_592 : decode cL_isTold 592 = .ok (.ireturn, 1) := by decide +kernel
theorem dL_begun_0 : decode cL_begun 0 = .ok (.aload_n 0, 1) := by decide +kernel
theorem dL_begun_1 : decode cL_begun 1 = .ok (.iload_n 1, 1) := by decide +kernel
theorem dL_begun_2 : decode cL_begun 2 = .ok (.iload_n 2, 1) := by decide +kernel
theorem dL_begun_3 : decode cL_begun 3 = .ok (.iload_n 3, 1) := by decide +kernel
theorem dL_begun_4 : decode cL_begun 4 = .ok (.invokevirtual 107, 3) := by decide +kernel
theorem dL_begun_7 : decode cL_begun 7 = .ok (.ireturn, 1) := by decide +kernel
theorem dL_begun_8 : decode cL_begun 8 = .ok (.astore 4, 2) := by decide +kernel
theorem dL_begun_10 : decode cL_begun 10 = .ok (.bipush (-8), 2) := by decide +kernel
theorem dL_begun_12 : decode cL_begun 12 = .ok (.ireturn, 1) := by decide +kernel
theorem dL_begun_13 : decode cL_begun 13 = .ok (.astore 4, 2) := by decide +kernel
theorem dL_begun_15 : decode cL_begun 15 = .ok (.bipush (-7), 2) := by decide +kernel
theorem dL_begun_17 : decode cL_begun 17 = .ok (.ireturn, 1) := by decide +kernel
theorem dL_tested_0 : decode cL_tested 0 = .ok (.aload_n 0, 1) := by decide +kernel
theorem dL_tested_1 : decode cL_tested 1 = .ok (.iload_n 1, 1) := by decide +kernel
theorem dL_tested_2 : decode cL_tested 2 = .ok (.iload_n 2, 1) := by decide +kernel
theorem dL_tested_3 : decode cL_tested 3 = .ok (.iload_n 3, 1) := by decide +kernel
theorem dL_tested_4 : decode cL_tested 4 = .ok (.invokevirtual 115, 3) := by decide +kernel
theorem dL_tested_7 : decode cL_tested 7 = .ok (.ifCond .eq 7, 3) := by decide +kernel
theorem dL_tested_10 : decode cL_tested 10 = .ok (.iconst 1, 1) := by decide +kernel
theorem dL_tested_11 : decode cL_tested 11 = .ok (.goto 4, 3) := by decide +kernel
theorem dL_tested_14 : decode cL_tested 14 = .ok (.iconst 0, 1) := by decide +kernel
theorem dL_tested_15 : decode cL_tested 15 = .ok (.ireturn, 1) := by decide +kernel
theorem dL_tested_16 : decode cL_tested 16 = .ok (.astore 4, 2) := by decide +kernel
theorem dL_tested_18 : decode cL_tested 18 = .ok (.bipush (-7), 2) := by decide +kernel
theorem dL_tested_20 : decode cL_tested 20 = .ok (.ireturn, 1) := by decide +kernel
theorem dL_changed_0 : decode cL_changed 0 = .ok (.aload_n 0, 1) := by decide +kernel
theorem dL_changed_1 : decode cL_changed 1 = .ok (.iload_n 1, 1) := by decide +kernel
theorem dL_changed_2 : decode cL_changed 2 = .ok (.iload_n 2, 1) := by decide +kernel
theorem dL_changed_3 : decode cL_changed 3 = .ok (.invokevirtual 119, 3) := by decide +kernel
theorem dL_changed_6 : decode cL_changed 6 = .ok (.ireturn, 1) := by decide +kernel
theorem dL_changed_7 : decode cL_changed 7 = .ok (.astore_n 3, 1) := by decide +kernel
theorem dL_changed_8 : decode cL_changed 8 = .ok (.bipush (-7), 2) := by decide +kernel
theorem dL_changed_10 : decode cL_changed 10 = .ok (.ireturn, 1) := by decide +kernel
theorem dL_allez_0 : decode cL_allez 0 = .ok (.aload_n 0, 1) := by decide +kernel
theorem dL_allez_1 : decode cL_allez 1 = .ok (.invokevirtual 122, 3) := by decide +kernel
theorem dL_allez_4 : decode cL_allez 4 = .ok (.ireturn, 1) := by decide +kernel
theorem dL_allez_5 : decode cL_allez 5 = .ok (.astore_n 1, 1) := by decide +kernel
theorem dL_allez_6 : decode cL_allez 6 = .ok (.bipush (-7), 2) := by decide +kernel
theorem dL_allez_8 : decode cL_allez 8 = .ok (.ireturn, 1) := by decide +kernel
theorem dL_heard_0 : decode cL_heard 0 = .ok (.iload_n 1, 1) := by decide +kernel
theorem dL_heard_1 : decode cL_heard 1 = .ok (.iconst 3, 1) := by decide +kernel
theorem dL_heard_2 : decode cL_heard 2 = .ok (.if_icmp .le 14, 3) := by decide +kernel
theorem dL_heard_5 : decode cL_heard 5 = .ok (.aload_n 0, 1) := by decide +kernel
theorem dL_heard_6 : decode cL_heard 6 = .ok (.iload_n 1, 1) := by decide +kernel
theorem dL_heard_7 : decode cL_heard 7 = .ok (.iconst 5, 1) := by decide +kernel
theorem dL_heard_8 : decode cL_heard 8 = .ok (.isub, 1) := by decide +kernel
theorem dL_heard_9 : decode cL_heard 9 = .ok (.iload_n 2, 1) := by decide +kernel
theorem dL_heard_10 : decode cL_heard 10 = .ok (.invokevirtual 125, 3) := by decide +kernel
theorem dL_heard_13 : decode cL_heard 13 = .ok (.goto 23, 3) := by decide +kernel
theorem dL_heard_16 : decode cL_heard 16 = .ok (.aload_n 0, 1) := by decide +kernel
theorem dL_heard_17 : decode cL_heard 17 = .ok (.iload_n 1, 1) := by decide +kernel
theorem dL_heard_18 : decode cL_heard 18 = .ok (.iconst 2, 1) := by decide +kernel
theorem dL_heard_19 : decode cL_heard 19 = .ok (.idiv, 1) := by decide +kernel
theorem dL_heard_20 : decode cL_heard 20 = .ok (.iload_n 1, 1) := by decide +kernel
theorem dL_heard_21 : decode cL_heard 21 = .ok (.iconst 2, 1) := by decide +kernel
theorem dL_heard_22 : decode cL_heard 22 = .ok (.irem, 1) := by decide +kernel
theorem dL_heard_23 : decode cL_heard 23 = .ok (.iconst 1, 1) := by decide +kernel
theorem dL_heard_24 : decode cL_heard 24 = .ok (.if_icmp .ne 7, 3) := by decide +kernel
theorem dL_heard_27 : decode cL_heard 27 = .ok (.iconst 1, 1) := by decide +kernel
theorem dL_heard_28 : decode cL_heard 28 = .ok (.goto 4, 3) := by decide +kernel
theorem dL_heard_31 : decode cL_heard 31 = .ok (.iconst 0, 1) := by decide +kernel
theorem dL_heard_32 : decode cL_heard 32 = .ok (.iload_n 2, 1) := by decide +kernel
theorem dL_heard_33 : decode cL_heard 33 = .ok (.invokevirtual 128, 3) := by decide +kernel
theorem dL_heard_36 : decode cL_heard 36 = .ok (.ireturn, 1) := by decide +kernel
theorem dL_heard_37 : decode cL_heard 37 = .ok (.astore_n 3, 1) := by decide +kernel
theorem dL_heard_38 : decode cL_heard 38 = .ok (.bipush (-7), 2) := by decide +kernel
theorem dL_heard_40 : decode cL_heard 40 = .ok (.ireturn, 1) := by decide +kernel
theorem dL_halted_0 : decode cL_halted 0 = .ok (.aload_n 0, 1) := by decide +kernel
theorem dL_halted_1 : decode cL_halted 1 = .ok (.invokevirtual 132, 3) := by decide +kernel
theorem dL_halted_4 : decode cL_halted 4 = .ok (.ireturn, 1) := by decide +kernel
theorem dL_halted_5 : decode cL_halted 5 = .ok (.astore_n 1, 1) := by decide +kernel
theorem dL_halted_6 : decode cL_halted 6 = .ok (.bipush (-7), 2) := by decide +kernel
theorem dL_halted_8 : decode cL_halted 8 = .ok (.ireturn, 1) := by decide +kernel
theorem dL_appealed_0 : decode cL_appealed 0 = .ok (.aload_n 0, 1) := by decide +kernel
theorem dL_appealed_1 : decode cL_appealed 1 = .ok (.iload_n 1, 1) := by decide +kernel
theorem dL_appealed_2 : decode cL_appealed 2 = .ok (.iload_n 2, 1) := by decide +kernel
theorem dL_appealed_3 : decode cL_appealed 3 = .ok (.invokevirtual 135, 3) := by decide +kernel
theorem dL_appealed_6 : decode cL_appealed 6 = .ok (.ireturn, 1) := by decide +kernel
theorem dL_appealed_7 : decode cL_appealed 7 = .ok (.astore_n 3, 1) := by decide +kernel
theorem dL_appealed_8 : decode cL_appealed 8 = .ok (.bipush (-7), 2) := by decide +kernel
theorem dL_appealed_10 : decode cL_appealed 10 = .ok (.ireturn, 1) := by decide +kernel
theorem dL_drawn_0 : decode cL_drawn 0 = .ok (.aload_n 0, 1) := by decide +kernel
theorem dL_drawn_1 : decode cL_drawn 1 = .ok (.invokevirtual 138, 3) := by decide +kernel
theorem dL_drawn_4 : decode cL_drawn 4 = .ok (.ireturn, 1) := by decide +kernel
theorem dL_drawn_5 : decode cL_drawn 5 = .ok (.astore_n 1, 1) := by decide +kernel
theorem dL_drawn_6 : decode cL_drawn 6 = .ok (.bipush (-7), 2) := by decide +kernel
theorem dL_drawn_8 : decode cL_drawn 8 = .ok (.ireturn, 1) := by decide +kernel
theorem dL_armed_0 : decode cL_armed 0 = .ok (.iconst 0, 1) := by decide +kernel
theorem dL_armed_1 : decode cL_armed 1 = .ok (.istore 5, 2) := by decide +kernel
theorem dL_armed_3 : decode cL_armed 3 = .ok (.iload 5, 2) := by decide +kernel
theorem dL_armed_5 : decode cL_armed 5 = .ok (.aload_n 2, 1) := by decide +kernel
theorem dL_armed_6 : decode cL_armed 6 = .ok (.iconst 0, 1) := by decide +kernel
theorem dL_armed_7 : decode cL_armed 7 = .ok (.iaload, 1) := by decide +kernel
theorem dL_armed_8 : decode cL_armed 8 = .ok (.if_icmp .ge 45, 3) := by decide +kernel
theorem dL_armed_11 : decode cL_armed 11 = .ok (.iload 5, 2) := by decide +kernel
theorem dL_armed_13 : decode cL_armed 13 = .ok (.iload 4, 2) := by decide +kernel
theorem dL_armed_15 : decode cL_armed 15 = .ok (.iadd, 1) := by decide +kernel
theorem dL_armed_16 : decode cL_armed 16 = .ok (.aload_n 2, 1) := by decide +kernel
theorem dL_armed_17 : decode cL_armed 17 = .ok (.iconst 0, 1) := by decide +kernel
theorem dL_armed_18 : decode cL_armed 18 = .ok (.iaload, 1) := by decide +kernel
theorem dL_armed_19 : decode cL_armed 19 = .ok (.irem, 1) := by decide +kernel
theorem dL_armed_20 : decode cL_armed 20 = .ok (.istore 6, 2) := by decide +kernel
theorem dL_armed_22 : decode cL_armed 22 = .ok (.aload_n 1, 1) := by decide +kernel
theorem dL_armed_23 : decode cL_armed 23 = .ok (.iconst 2, 1) := by decide +kernel
theorem dL_armed_24 : decode cL_armed 24 = .ok (.iload 6, 2) := by decide +kernel
theorem dL_armed_26 : decode cL_armed 26 = .ok (.imul, 1) := by decide +kernel
theorem dL_armed_27 : decode cL_armed 27 = .ok (.iaload, 1) := by decide +kernel
theorem dL_armed_28 : decode cL_armed 28 = .ok (.iload_n 3, 1) := by decide +kernel
theorem dL_armed_29 : decode cL_armed 29 = .ok (.if_icmp .ne 18, 3) := by decide +kernel
theorem dL_armed_32 : decode cL_armed 32 = .ok (.aload_n 1, 1) := by decide +kernel
theorem dL_armed_33 : decode cL_armed 33 = .ok (.iconst 2, 1) := by decide +kernel
theorem dL_armed_34 : decode cL_armed 34 = .ok (.iload 6, 2) := by decide +kernel
theorem dL_armed_36 : decode cL_armed 36 = .ok (.imul, 1) := by decide +kernel
theorem dL_armed_37 : decode cL_armed 37 = .ok (.iconst 1, 1) := by decide +kernel
theorem dL_armed_38 : decode cL_armed 38 = .ok (.iadd, 1) := by decide +kernel
theorem dL_armed_39 : decode cL_armed 39 = .ok (.iaload, 1) := by decide +kernel
theorem dL_armed_40 : decode cL_armed 40 = .ok (.iconst 1, 1) := by decide +kernel
theorem dL_armed_41 : decode cL_armed 41 = .ok (.if_icmp .ne 6, 3) := by decide +kernel
theorem dL_armed_44 : decode cL_armed 44 = .ok (.iload 6, 2) := by decide +kernel
theorem dL_armed_46 : decode cL_armed 46 = .ok (.ireturn, 1) := by decide +kernel
theorem dL_armed_47 : decode cL_armed 47 = .ok (.iinc 5 1, 3) := by decide +kernel
theorem dL_armed_50 : decode cL_armed 50 = .ok (.goto (-47), 3) := by decide +kernel
theorem dL_armed_53 : decode cL_armed 53 = .ok (.aload_n 2, 1) := by decide +kernel
theorem dL_armed_54 : decode cL_armed 54 = .ok (.iconst 0, 1) := by decide +kernel
theorem dL_armed_55 : decode cL_armed 55 = .ok (.iaload, 1) := by decide +kernel
theorem dL_armed_56 : decode cL_armed 56 = .ok (.bipush 16, 2) := by decide +kernel
theorem dL_armed_58 : decode cL_armed 58 = .ok (.if_icmp .eq 10, 3) := by decide +kernel
theorem dL_armed_61 : decode cL_armed 61 = .ok (.aload_n 2, 1) := by decide +kernel
theorem dL_armed_62 : decode cL_armed 62 = .ok (.iconst 4, 1) := by decide +kernel
theorem dL_armed_63 : decode cL_armed 63 = .ok (.iaload, 1) := by decide +kernel
theorem dL_armed_64 : decode cL_armed 64 = .ok (.iconst 1, 1) := by decide +kernel
theorem dL_armed_65 : decode cL_armed 65 = .ok (.if_icmp .ne 5, 3) := by decide +kernel
theorem dL_armed_68 : decode cL_armed 68 = .ok (.iconst (-1), 1) := by decide +kernel
theorem dL_armed_69 : decode cL_armed 69 = .ok (.ireturn, 1) := by decide +kernel
theorem dL_armed_70 : decode cL_armed 70 = .ok (.aload_n 1, 1) := by decide +kernel
theorem dL_armed_71 : decode cL_armed 71 = .ok (.iconst 2, 1) := by decide +kernel
theorem dL_armed_72 : decode cL_armed 72 = .ok (.aload_n 2, 1) := by decide +kernel
theorem dL_armed_73 : decode cL_armed 73 = .ok (.iconst 0, 1) := by decide +kernel
theorem dL_armed_74 : decode cL_armed 74 = .ok (.iaload, 1) := by decide +kernel
theorem dL_armed_75 : decode cL_armed 75 = .ok (.imul, 1) := by decide +kernel
theorem dL_armed_76 : decode cL_armed 76 = .ok (.iload_n 3, 1) := by decide +kernel
theorem dL_armed_77 : decode cL_armed 77 = .ok (.iastore, 1) := by decide +kernel
theorem dL_armed_78 : decode cL_armed 78 = .ok (.aload_n 1, 1) := by decide +kernel
theorem dL_armed_79 : decode cL_armed 79 = .ok (.iconst 2, 1) := by decide +kernel
theorem dL_armed_80 : decode cL_armed 80 = .ok (.aload_n 2, 1) := by decide +kernel
theorem dL_armed_81 : decode cL_armed 81 = .ok (.iconst 0, 1) := by decide +kernel
theorem dL_armed_82 : decode cL_armed 82 = .ok (.iaload, 1) := by decide +kernel
theorem dL_armed_83 : decode cL_armed 83 = .ok (.imul, 1) := by decide +kernel
theorem dL_armed_84 : decode cL_armed 84 = .ok (.iconst 1, 1) := by decide +kernel
theorem dL_armed_85 : decode cL_armed 85 = .ok (.iadd, 1) := by decide +kernel
theorem dL_armed_86 : decode cL_armed 86 = .ok (.iconst 1, 1) := by decide +kernel
theorem dL_armed_87 : decode cL_armed 87 = .ok (.iastore, 1) := by decide +kernel
theorem dL_armed_88 : decode cL_armed 88 = .ok (.aload_n 2, 1) := by decide +kernel
theorem dL_armed_89 : decode cL_armed 89 = .ok (.iconst 0, 1) := by decide +kernel
theorem dL_armed_90 : decode cL_armed 90 = .ok (.dup2, 1) := by decide +kernel
theorem dL_armed_91 : decode cL_armed 91 = .ok (.iaload, 1) := by decide +kernel
theorem dL_armed_92 : decode cL_armed 92 = .ok (.iconst 1, 1) := by decide +kernel
theorem dL_armed_93 : decode cL_armed 93 = .ok (.iadd, 1) := by decide +kernel
theorem dL_armed_94 : decode cL_armed 94 = .ok (.iastore, 1) := by decide +kernel
theorem dL_armed_95 : decode cL_armed 95 = .ok (.aload_n 0, 1) := by decide +kernel
theorem dL_armed_96 : decode cL_armed 96 = .ok (.iload_n 3, 1) := by decide +kernel
theorem dL_armed_97 : decode cL_armed 97 = .ok (.invokevirtual 141, 3) := by decide +kernel
theorem dL_armed_100 : decode cL_armed 100 = .ok (.aload_n 2, 1) := by decide +kernel
theorem dL_armed_101 : decode cL_armed 101 = .ok (.iconst 0, 1) := by decide +kernel
theorem dL_armed_102 : decode cL_armed 102 = .ok (.iaload, 1) := by decide +kernel
theorem dL_armed_103 : decode cL_armed 103 = .ok (.iconst 1, 1) := by decide +kernel
theorem dL_armed_104 : decode cL_armed 104 = .ok (.isub, 1) := by decide +kernel
end
section
theorem dL_armed_105 : decode cL_armed 105 = .ok (.if_icmp .ne 38, 3) := by decide +kernel
theorem dL_armed_108 : decode cL_armed 108 = .ok (.aload_n 0, 1) := by decide +kernel
theorem dL_armed_109 : decode cL_armed 109 = .ok (.aload_n 2, 1) := by decide +kernel
theorem dL_armed_110 : decode cL_armed 110 = .ok (.iconst 0, 1) := by decide +kernel
theorem dL_armed_111 : decode cL_armed 111 = .ok (.iaload, 1) := by decide +kernel
theorem dL_armed_112 : decode cL_armed 112 = .ok (.iconst 1, 1) := by decide +kernel
theorem dL_armed_113 : decode cL_armed 113 = .ok (.isub, 1) := by decide +kernel
theorem dL_armed_114 : decode cL_armed 114 = .ok (.sipush 500, 3) := by decide +kernel
theorem dL_armed_117 : decode cL_armed 117 = .ok (.iload 4, 2) := by decide +kernel
theorem dL_armed_119 : decode cL_armed 119 = .ok (.sipush 271, 3) := by decide +kernel
theorem dL_armed_122 : decode cL_armed 122 = .ok (.irem, 1) := by decide +kernel
theorem dL_armed_123 : decode cL_armed 123 = .ok (.iadd, 1) := by decide +kernel
theorem dL_armed_124 : decode cL_armed 124 = .ok (.iload 4, 2) := by decide +kernel
theorem dL_armed_126 : decode cL_armed 126 = .ok (.bipush 16, 2) := by decide +kernel
theorem dL_armed_128 : decode cL_armed 128 = .ok (.irem, 1) := by decide +kernel
theorem dL_armed_129 : decode cL_armed 129 = .ok (.invokevirtual 115, 3) := by decide +kernel
theorem dL_armed_132 : decode cL_armed 132 = .ok (.ifCond .eq 11, 3) := by decide +kernel
theorem dL_armed_135 : decode cL_armed 135 = .ok (.aload_n 2, 1) := by decide +kernel
theorem dL_armed_136 : decode cL_armed 136 = .ok (.iconst 0, 1) := by decide +kernel
theorem dL_armed_137 : decode cL_armed 137 = .ok (.iaload, 1) := by decide +kernel
theorem dL_armed_138 : decode cL_armed 138 = .ok (.iconst 1, 1) := by decide +kernel
theorem dL_armed_139 : decode cL_armed 139 = .ok (.isub, 1) := by decide +kernel
theorem dL_armed_140 : decode cL_armed 140 = .ok (.goto 4, 3) := by decide +kernel
theorem dL_armed_143 : decode cL_armed 143 = .ok (.iconst (-1), 1) := by decide +kernel
theorem dL_armed_144 : decode cL_armed 144 = .ok (.ireturn, 1) := by decide +kernel
theorem dL_isBegun_0 : decode cL_isBegun 0 = .ok (.iload 6, 2) := by decide +kernel
theorem dL_isBegun_2 : decode cL_isBegun 2 = .ok (.aload 5, 2) := by decide +kernel
theorem dL_isBegun_4 : decode cL_isBegun 4 = .ok (.bipush 7, 2) := by decide +kernel
theorem dL_isBegun_6 : decode cL_isBegun 6 = .ok (.iaload, 1) := by decide +kernel
theorem dL_isBegun_7 : decode cL_isBegun 7 = .ok (.ifCond .le 8, 3) := by decide +kernel
theorem dL_isBegun_10 : decode cL_isBegun 10 = .ok (.bipush 9, 2) := by decide +kernel
theorem dL_isBegun_12 : decode cL_isBegun 12 = .ok (.goto 5, 3) := by decide +kernel
theorem dL_isBegun_15 : decode cL_isBegun 15 = .ok (.bipush 6, 2) := by decide +kernel
theorem dL_isBegun_17 : decode cL_isBegun 17 = .ok (.irem, 1) := by decide +kernel
theorem dL_isBegun_18 : decode cL_isBegun 18 = .ok (.istore 7, 2) := by decide +kernel
theorem dL_isBegun_20 : decode cL_isBegun 20 = .ok (.iconst 0, 1) := by decide +kernel
theorem dL_isBegun_21 : decode cL_isBegun 21 = .ok (.istore 8, 2) := by decide +kernel
theorem dL_isBegun_23 : decode cL_isBegun 23 = .ok (.iload 8, 2) := by decide +kernel
theorem dL_isBegun_25 : decode cL_isBegun 25 = .ok (.bipush 9, 2) := by decide +kernel
theorem dL_isBegun_27 : decode cL_isBegun 27 = .ok (.if_icmp .ge 82, 3) := by decide +kernel
theorem dL_isBegun_30 : decode cL_isBegun 30 = .ok (.iload 6, 2) := by decide +kernel
theorem dL_isBegun_32 : decode cL_isBegun 32 = .ok (.bipush 9, 2) := by decide +kernel
theorem dL_isBegun_34 : decode cL_isBegun 34 = .ok (.idiv, 1) := by decide +kernel
theorem dL_isBegun_35 : decode cL_isBegun 35 = .ok (.iconst 5, 1) := by decide +kernel
theorem dL_isBegun_36 : decode cL_isBegun 36 = .ok (.irem, 1) := by decide +kernel
theorem dL_isBegun_37 : decode cL_isBegun 37 = .ok (.ifCond .le 72, 3) := by decide +kernel
theorem dL_isBegun_40 : decode cL_isBegun 40 = .ok (.aload_n 1, 1) := by decide +kernel
theorem dL_isBegun_41 : decode cL_isBegun 41 = .ok (.aload_n 2, 1) := by decide +kernel
theorem dL_isBegun_42 : decode cL_isBegun 42 = .ok (.aload_n 3, 1) := by decide +kernel
theorem dL_isBegun_43 : decode cL_isBegun 43 = .ok (.iload 7, 2) := by decide +kernel
theorem dL_isBegun_45 : decode cL_isBegun 45 = .ok (.invokestatic 23, 3) := by decide +kernel
theorem dL_isBegun_48 : decode cL_isBegun 48 = .ok (.bipush 100, 2) := by decide +kernel
theorem dL_isBegun_50 : decode cL_isBegun 50 = .ok (.if_icmp .ge 31, 3) := by decide +kernel
theorem dL_isBegun_53 : decode cL_isBegun 53 = .ok (.iload 7, 2) := by decide +kernel
theorem dL_isBegun_55 : decode cL_isBegun 55 = .ok (.iconst 5, 1) := by decide +kernel
theorem dL_isBegun_56 : decode cL_isBegun 56 = .ok (.if_icmp .le 53, 3) := by decide +kernel
theorem dL_isBegun_59 : decode cL_isBegun 59 = .ok (.aload 4, 2) := by decide +kernel
theorem dL_isBegun_61 : decode cL_isBegun 61 = .ok (.iload 7, 2) := by decide +kernel
theorem dL_isBegun_63 : decode cL_isBegun 63 = .ok (.iconst 0, 1) := by decide +kernel
theorem dL_isBegun_64 : decode cL_isBegun 64 = .ok (.invokestatic 27, 3) := by decide +kernel
theorem dL_isBegun_67 : decode cL_isBegun 67 = .ok (.ifCond .lt 14, 3) := by decide +kernel
theorem dL_isBegun_70 : decode cL_isBegun 70 = .ok (.aload 4, 2) := by decide +kernel
theorem dL_isBegun_72 : decode cL_isBegun 72 = .ok (.iload 7, 2) := by decide +kernel
theorem dL_isBegun_74 : decode cL_isBegun 74 = .ok (.iconst 1, 1) := by decide +kernel
theorem dL_isBegun_75 : decode cL_isBegun 75 = .ok (.invokestatic 27, 3) := by decide +kernel
theorem dL_isBegun_78 : decode cL_isBegun 78 = .ok (.ifCond .ge 31, 3) := by decide +kernel
theorem dL_isBegun_81 : decode cL_isBegun 81 = .ok (.iload 7, 2) := by decide +kernel
theorem dL_isBegun_83 : decode cL_isBegun 83 = .ok (.iconst 1, 1) := by decide +kernel
theorem dL_isBegun_84 : decode cL_isBegun 84 = .ok (.iadd, 1) := by decide +kernel
theorem dL_isBegun_85 : decode cL_isBegun 85 = .ok (.aload 5, 2) := by decide +kernel
theorem dL_isBegun_87 : decode cL_isBegun 87 = .ok (.bipush 7, 2) := by decide +kernel
theorem dL_isBegun_89 : decode cL_isBegun 89 = .ok (.iaload, 1) := by decide +kernel
theorem dL_isBegun_90 : decode cL_isBegun 90 = .ok (.ifCond .le 8, 3) := by decide +kernel
theorem dL_isBegun_93 : decode cL_isBegun 93 = .ok (.bipush 9, 2) := by decide +kernel
theorem dL_isBegun_95 : decode cL_isBegun 95 = .ok (.goto 5, 3) := by decide +kernel
theorem dL_isBegun_98 : decode cL_isBegun 98 = .ok (.bipush 6, 2) := by decide +kernel
theorem dL_isBegun_100 : decode cL_isBegun 100 = .ok (.irem, 1) := by decide +kernel
theorem dL_isBegun_101 : decode cL_isBegun 101 = .ok (.istore 7, 2) := by decide +kernel
theorem dL_isBegun_103 : decode cL_isBegun 103 = .ok (.iinc 8 1, 3) := by decide +kernel
theorem dL_isBegun_106 : decode cL_isBegun 106 = .ok (.goto (-83), 3) := by decide +kernel
theorem dL_isBegun_109 : decode cL_isBegun 109 = .ok (.aload 4, 2) := by decide +kernel
theorem dL_isBegun_111 : decode cL_isBegun 111 = .ok (.iload 7, 2) := by decide +kernel
theorem dL_isBegun_113 : decode cL_isBegun 113 = .ok (.iconst 0, 1) := by decide +kernel
theorem dL_isBegun_114 : decode cL_isBegun 114 = .ok (.invokestatic 27, 3) := by decide +kernel
theorem dL_isBegun_117 : decode cL_isBegun 117 = .ok (.istore 8, 2) := by decide +kernel
theorem dL_isBegun_119 : decode cL_isBegun 119 = .ok (.aload 4, 2) := by decide +kernel
theorem dL_isBegun_121 : decode cL_isBegun 121 = .ok (.iload 7, 2) := by decide +kernel
theorem dL_isBegun_123 : decode cL_isBegun 123 = .ok (.iconst 1, 1) := by decide +kernel
theorem dL_isBegun_124 : decode cL_isBegun 124 = .ok (.invokestatic 27, 3) := by decide +kernel
theorem dL_isBegun_127 : decode cL_isBegun 127 = .ok (.istore 9, 2) := by decide +kernel
theorem dL_isBegun_129 : decode cL_isBegun 129 = .ok (.iload 8, 2) := by decide +kernel
theorem dL_isBegun_131 : decode cL_isBegun 131 = .ok (.ifCond .lt 8, 3) := by decide +kernel
theorem dL_isBegun_134 : decode cL_isBegun 134 = .ok (.iload 9, 2) := by decide +kernel
theorem dL_isBegun_136 : decode cL_isBegun 136 = .ok (.ifCond .ge 44, 3) := by decide +kernel
theorem dL_isBegun_139 : decode cL_isBegun 139 = .ok (.aload 5, 2) := by decide +kernel
theorem dL_isBegun_141 : decode cL_isBegun 141 = .ok (.iconst 0, 1) := by decide +kernel
theorem dL_isBegun_142 : decode cL_isBegun 142 = .ok (.iaload, 1) := by decide +kernel
theorem dL_isBegun_143 : decode cL_isBegun 143 = .ok (.ifCond .eq 31, 3) := by decide +kernel
theorem dL_isBegun_146 : decode cL_isBegun 146 = .ok (.aload_n 0, 1) := by decide +kernel
theorem dL_isBegun_147 : decode cL_isBegun 147 = .ok (.iload 7, 2) := by decide +kernel
theorem dL_isBegun_149 : decode cL_isBegun 149 = .ok (.invokestatic 49, 3) := by decide +kernel
theorem dL_isBegun_152 : decode cL_isBegun 152 = .ok (.iload 6, 2) := by decide +kernel
theorem dL_isBegun_154 : decode cL_isBegun 154 = .ok (.aload 5, 2) := by decide +kernel
theorem dL_isBegun_156 : decode cL_isBegun 156 = .ok (.iconst 0, 1) := by decide +kernel
theorem dL_isBegun_157 : decode cL_isBegun 157 = .ok (.iaload, 1) := by decide +kernel
theorem dL_isBegun_158 : decode cL_isBegun 158 = .ok (.irem, 1) := by decide +kernel
theorem dL_isBegun_159 : decode cL_isBegun 159 = .ok (.iload 6, 2) := by decide +kernel
theorem dL_isBegun_161 : decode cL_isBegun 161 = .ok (.aload 5, 2) := by decide +kernel
theorem dL_isBegun_163 : decode cL_isBegun 163 = .ok (.iconst 0, 1) := by decide +kernel
theorem dL_isBegun_164 : decode cL_isBegun 164 = .ok (.iaload, 1) := by decide +kernel
theorem dL_isBegun_165 : decode cL_isBegun 165 = .ok (.irem, 1) := by decide +kernel
theorem dL_isBegun_166 : decode cL_isBegun 166 = .ok (.invokestatic 144, 3) := by decide +kernel
theorem dL_isBegun_169 : decode cL_isBegun 169 = .ok (.bipush (-7), 2) := by decide +kernel
theorem dL_isBegun_171 : decode cL_isBegun 171 = .ok (.if_icmp .ne 7, 3) := by decide +kernel
theorem dL_isBegun_174 : decode cL_isBegun 174 = .ok (.iconst 1, 1) := by decide +kernel
theorem dL_isBegun_175 : decode cL_isBegun 175 = .ok (.goto 4, 3) := by decide +kernel
theorem dL_isBegun_178 : decode cL_isBegun 178 = .ok (.iconst 0, 1) := by decide +kernel
theorem dL_isBegun_179 : decode cL_isBegun 179 = .ok (.ireturn, 1) := by decide +kernel
theorem dL_isBegun_180 : decode cL_isBegun 180 = .ok (.aload_n 0, 1) := by decide +kernel
theorem dL_isBegun_181 : decode cL_isBegun 181 = .ok (.aload_n 1, 1) := by decide +kernel
theorem dL_isBegun_182 : decode cL_isBegun 182 = .ok (.aload 5, 2) := by decide +kernel
theorem dL_isBegun_184 : decode cL_isBegun 184 = .ok (.iload 8, 2) := by decide +kernel
theorem dL_isBegun_186 : decode cL_isBegun 186 = .ok (.iload 6, 2) := by decide +kernel
theorem dL_isBegun_188 : decode cL_isBegun 188 = .ok (.invokestatic 148, 3) := by decide +kernel
theorem dL_isBegun_191 : decode cL_isBegun 191 = .ok (.istore 10, 2) := by decide +kernel
theorem dL_isBegun_193 : decode cL_isBegun 193 = .ok (.aload_n 0, 1) := by decide +kernel
theorem dL_isBegun_194 : decode cL_isBegun 194 = .ok (.aload_n 1, 1) := by decide +kernel
theorem dL_isBegun_195 : decode cL_isBegun 195 = .ok (.aload 5, 2) := by decide +kernel
theorem dL_isBegun_197 : decode cL_isBegun 197 = .ok (.iload 9, 2) := by decide +kernel
theorem dL_isBegun_199 : decode cL_isBegun 199 = .ok (.iload 6, 2) := by decide +kernel
theorem dL_isBegun_201 : decode cL_isBegun 201 = .ok (.bipush 7, 2) := by decide +kernel
theorem dL_isBegun_203 : decode cL_isBegun 203 = .ok (.idiv, 1) := by decide +kernel
theorem dL_isBegun_204 : decode cL_isBegun 204 = .ok (.invokestatic 148, 3) := by decide +kernel
theorem dL_isBegun_207 : decode cL_isBegun 207 = .ok (.istore 11, 2) := by decide +kernel
theorem dL_isBegun_209 : decode cL_isBegun 209 = .ok (.iload 10, 2) := by decide +kernel
theorem dL_isBegun_211 : decode cL_isBegun 211 = .ok (.ifCond .lt 8, 3) := by decide +kernel
theorem dL_isBegun_214 : decode cL_isBegun 214 = .ok (.iload 11, 2) := by decide +kernel
theorem dL_isBegun_216 : decode cL_isBegun 216 = .ok (.ifCond .ge 5, 3) := by decide +kernel
theorem dL_isBegun_219 : decode cL_isBegun 219 = .ok (.iconst 1, 1) := by decide +kernel
theorem dL_isBegun_220 : decode cL_isBegun 220 = .ok (.ireturn, 1) := by decide +kernel
theorem dL_isBegun_221 : decode cL_isBegun 221 = .ok (.aload 5, 2) := by decide +kernel
theorem dL_isBegun_223 : decode cL_isBegun 223 = .ok (.iconst 4, 1) := by decide +kernel
theorem dL_isBegun_224 : decode cL_isBegun 224 = .ok (.iaload, 1) := by decide +kernel
theorem dL_isBegun_225 : decode cL_isBegun 225 = .ok (.ifCond .ne 20, 3) := by decide +kernel
theorem dL_isBegun_228 : decode cL_isBegun 228 = .ok (.aload_n 1, 1) := by decide +kernel
theorem dL_isBegun_229 : decode cL_isBegun 229 = .ok (.aload_n 2, 1) := by decide +kernel
theorem dL_isBegun_230 : decode cL_isBegun 230 = .ok (.aload_n 3, 1) := by decide +kernel
theorem dL_isBegun_231 : decode cL_isBegun 231 = .ok (.iload 7, 2) := by decide +kernel
theorem dL_isBegun_233 : decode cL_isBegun 233 = .ok (.invokestatic 23, 3) := by decide +kernel
theorem dL_isBegun_236 : decode cL_isBegun 236 = .ok (.bipush 100, 2) := by decide +kernel
theorem dL_isBegun_238 : decode cL_isBegun 238 = .ok (.if_icmp .ge 7, 3) := by decide +kernel
theorem dL_isBegun_241 : decode cL_isBegun 241 = .ok (.iconst 1, 1) := by decide +kernel
theorem dL_isBegun_242 : decode cL_isBegun 242 = .ok (.goto 4, 3) := by decide +kernel
theorem dL_isBegun_245 : decode cL_isBegun 245 = .ok (.iconst 0, 1) := by decide +kernel
theorem dL_isBegun_246 : decode cL_isBegun 246 = .ok (.istore 12, 2) := by decide +kernel
theorem dL_isBegun_248 : decode cL_isBegun 248 = .ok (.iload 12, 2) := by decide +kernel
theorem dL_isBegun_250 : decode cL_isBegun 250 = .ok (.ifCond .eq 27, 3) := by decide +kernel
theorem dL_isBegun_253 : decode cL_isBegun 253 = .ok (.aload 5, 2) := by decide +kernel
theorem dL_isBegun_255 : decode cL_isBegun 255 = .ok (.iconst 1, 1) := by decide +kernel
theorem dL_isBegun_256 : decode cL_isBegun 256 = .ok (.iload 7, 2) := by decide +kernel
theorem dL_isBegun_258 : decode cL_isBegun 258 = .ok (.iastore, 1) := by decide +kernel
theorem dL_isBegun_259 : decode cL_isBegun 259 = .ok (.aload 5, 2) := by decide +kernel
theorem dL_isBegun_261 : decode cL_isBegun 261 = .ok (.iconst 2, 1) := by decide +kernel
theorem dL_isBegun_262 : decode cL_isBegun 262 = .ok (.iload 10, 2) := by decide +kernel
theorem dL_isBegun_264 : decode cL_isBegun 264 = .ok (.iastore, 1) := by decide +kernel
theorem dL_isBegun_265 : decode cL_isBegun 265 = .ok (.aload 5, 2) := by decide +kernel
theorem dL_isBegun_267 : decode cL_isBegun 267 = .ok (.iconst 3, 1) := by decide +kernel
theorem dL_isBegun_268 : decode cL_isBegun 268 = .ok (.iload 11, 2) := by decide +kernel
theorem dL_isBegun_270 : decode cL_isBegun 270 = .ok (.iastore, 1) := by decide +kernel
theorem dL_isBegun_271 : decode cL_isBegun 271 = .ok (.aload 5, 2) := by decide +kernel
theorem dL_isBegun_273 : decode cL_isBegun 273 = .ok (.bipush 6, 2) := by decide +kernel
theorem dL_isBegun_275 : decode cL_isBegun 275 = .ok (.iconst 0, 1) := by decide +kernel
theorem dL_isBegun_276 : decode cL_isBegun 276 = .ok (.iastore, 1) := by decide +kernel
theorem dL_isBegun_277 : decode cL_isBegun 277 = .ok (.aload_n 0, 1) := by decide +kernel
theorem dL_isBegun_278 : decode cL_isBegun 278 = .ok (.iload 7, 2) := by decide +kernel
theorem dL_isBegun_280 : decode cL_isBegun 280 = .ok (.invokestatic 49, 3) := by decide +kernel
theorem dL_isBegun_283 : decode cL_isBegun 283 = .ok (.iload 10, 2) := by decide +kernel
theorem dL_isBegun_285 : decode cL_isBegun 285 = .ok (.iload 11, 2) := by decide +kernel
theorem dL_isBegun_287 : decode cL_isBegun 287 = .ok (.invokestatic 144, 3) := by decide +kernel
theorem dL_isBegun_290 : decode cL_isBegun 290 = .ok (.iload 12, 2) := by decide +kernel
theorem dL_isBegun_292 : decode cL_isBegun 292 = .ok (.ifCond .eq 10, 3) := by decide +kernel
theorem dL_isBegun_295 : decode cL_isBegun 295 = .ok (.aload_n 3, 1) := by decide +kernel
theorem dL_isBegun_296 : decode cL_isBegun 296 = .ok (.iload 7, 2) := by decide +kernel
theorem dL_isBegun_298 : decode cL_isBegun 298 = .ok (.iaload, 1) := by decide +kernel
theorem dL_isBegun_299 : decode cL_isBegun 299 = .ok (.goto 5, 3) := by decide +kernel
theorem dL_isBegun_302 : decode cL_isBegun 302 = .ok (.bipush (-7), 2) := by decide +kernel
theorem dL_isBegun_304 : decode cL_isBegun 304 = .ok (.if_icmp .ne 7, 3) := by decide +kernel
theorem dL_isBegun_307 : decode cL_isBegun 307 = .ok (.iconst 1, 1) := by decide +kernel
theorem dL_isBegun_308 : decode cL_isBegun 308 = .ok (.goto 4, 3) := by decide +kernel
theorem dL_isBegun_311 : decode cL_isBegun 311 = .ok (.iconst 0, 1) := by decide +kernel
theorem dL_isBegun_312 : decode cL_isBegun 312 = .ok (.ireturn, 1) := by decide +kernel
theorem dL_isFenced_0 : decode cL_isFenced 0 = .ok (.aload 8, 2) := by decide +kernel
theorem dL_isFenced_2 : decode cL_isFenced 2 = .ok (.iconst 1, 1) := by decide +kernel
theorem dL_isFenced_3 : decode cL_isFenced 3 = .ok (.iaload, 1) := by decide +kernel
theorem dL_isFenced_4 : decode cL_isFenced 4 = .ok (.ifCond .lt 57, 3) := by decide +kernel
theorem dL_isFenced_7 : decode cL_isFenced 7 = .ok (.aload 8, 2) := by decide +kernel
theorem dL_isFenced_9 : decode cL_isFenced 9 = .ok (.iconst 4, 1) := by decide +kernel
theorem dL_isFenced_10 : decode cL_isFenced 10 = .ok (.iaload, 1) := by decide +kernel
theorem dL_isFenced_11 : decode cL_isFenced 11 = .ok (.ifCond .ne 50, 3) := by decide +kernel
theorem dL_isFenced_14 : decode cL_isFenced 14 = .ok (.aload_n 1, 1) := by decide +kernel
theorem dL_isFenced_15 : decode cL_isFenced 15 = .ok (.iconst 2, 1) := by decide +kernel
theorem dL_isFenced_16 : decode cL_isFenced 16 = .ok (.aload 8, 2) := by decide +kernel
theorem dL_isFenced_18 : decode cL_isFenced 18 = .ok (.iconst 2, 1) := by decide +kernel
theorem dL_isFenced_19 : decode cL_isFenced 19 = .ok (.iaload, 1) := by decide +kernel
theorem dL_isFenced_20 : decode cL_isFenced 20 = .ok (.imul, 1) := by decide +kernel
theorem dL_isFenced_21 : decode cL_isFenced 21 = .ok (.iconst 1, 1) := by decide +kernel
theorem dL_isFenced_22 : decode cL_isFenced 22 = .ok (.iadd, 1) := by decide +kernel
theorem dL_isFenced_23 : decode cL_isFenced 23 = .ok (.iaload, 1) := by decide +kernel
theorem dL_isFenced_24 : decode cL_isFenced 24 = .ok (.iconst 1, 1) := by decide +kernel
theorem dL_isFenced_25 : decode cL_isFenced 25 = .ok (.if_icmp .ne 36, 3) := by decide +kernel
theorem dL_isFenced_28 : decode cL_isFenced 28 = .ok (.aload_n 1, 1) := by decide +kernel
theorem dL_isFenced_29 : decode cL_isFenced 29 = .ok (.iconst 2, 1) := by decide +kernel
theorem dL_isFenced_30 : decode cL_isFenced 30 = .ok (.aload 8, 2) := by decide +kernel
theorem dL_isFenced_32 : decode cL_isFenced 32 = .ok (.iconst 3, 1) := by decide +kernel
theorem dL_isFenced_33 : decode cL_isFenced 33 = .ok (.iaload, 1) := by decide +kernel
theorem dL_isFenced_34 : decode cL_isFenced 34 = .ok (.imul, 1) := by decide +kernel
theorem dL_isFenced_35 : decode cL_isFenced 35 = .ok (.iconst 1, 1) := by decide +kernel
theorem dL_isFenced_36 : decode cL_isFenced 36 = .ok (.iadd, 1) := by decide +kernel
theorem dL_isFenced_37 : decode cL_isFenced 37 = .ok (.iaload, 1) := by decide +kernel
theorem dL_isFenced_38 : decode cL_isFenced 38 = .ok (.iconst 1, 1) := by decide +kernel
theorem dL_isFenced_39 : decode cL_isFenced 39 = .ok (.if_icmp .ne 22, 3) := by decide +kernel
theorem dL_isFenced_42 : decode cL_isFenced 42 = .ok (.aload_n 1, 1) := by decide +kernel
theorem dL_isFenced_43 : decode cL_isFenced 43 = .ok (.aload_n 2, 1) := by decide +kernel
theorem dL_isFenced_44 : decode cL_isFenced 44 = .ok (.aload_n 3, 1) := by decide +kernel
theorem dL_isFenced_45 : decode cL_isFenced 45 = .ok (.aload 8, 2) := by decide +kernel
theorem dL_isFenced_47 : decode cL_isFenced 47 = .ok (.iconst 1, 1) := by decide +kernel
theorem dL_isFenced_48 : decode cL_isFenced 48 = .ok (.iaload, 1) := by decide +kernel
theorem dL_isFenced_49 : decode cL_isFenced 49 = .ok (.invokestatic 23, 3) := by decide +kernel
theorem dL_isFenced_52 : decode cL_isFenced 52 = .ok (.bipush 100, 2) := by decide +kernel
theorem dL_isFenced_54 : decode cL_isFenced 54 = .ok (.if_icmp .ge 7, 3) := by decide +kernel
theorem dL_isFenced_57 : decode cL_isFenced 57 = .ok (.iconst 1, 1) := by decide +kernel
theorem dL_isFenced_58 : decode cL_isFenced 58 = .ok (.goto 4, 3) := by decide +kernel
theorem dL_isFenced_61 : decode cL_isFenced 61 = .ok (.iconst 0, 1) := by decide +kernel
theorem dL_isFenced_62 : decode cL_isFenced 62 = .ok (.istore 12, 2) := by decide +kernel
theorem dL_isFenced_64 : decode cL_isFenced 64 = .ok (.iload 12, 2) := by decide +kernel
theorem dL_isFenced_66 : decode cL_isFenced 66 = .ok (.ifCond .ne 46, 3) := by decide +kernel
theorem dL_isFenced_69 : decode cL_isFenced 69 = .ok (.aload_n 0, 1) := by decide +kernel
theorem dL_isFenced_70 : decode cL_isFenced 70 = .ok (.invokestatic 152, 3) := by decide +kernel
theorem dL_isFenced_73 : decode cL_isFenced 73 = .ok (.bipush (-7), 2) := by decide +kernel
theorem dL_isFenced_75 : decode cL_isFenced 75 = .ok (.if_icmp .ne 35, 3) := by decide +kernel
theorem dL_isFenced_78 : decode cL_isFenced 78 = .ok (.aload 8, 2) := by decide +kernel
theorem dL_isFenced_80 : decode cL_isFenced 80 = .ok (.iconst 4, 1) := by decide +kernel
theorem dL_isFenced_81 : decode cL_isFenced 81 = .ok (.iaload, 1) := by decide +kernel
theorem dL_isFenced_82 : decode cL_isFenced 82 = .ok (.iconst 1, 1) := by decide +kernel
theorem dL_isFenced_83 : decode cL_isFenced 83 = .ok (.if_icmp .eq 23, 3) := by decide +kernel
theorem dL_isFenced_86 : decode cL_isFenced 86 = .ok (.aload_n 0, 1) := by decide +kernel
theorem dL_isFenced_87 : decode cL_isFenced 87 = .ok (.invokestatic 155, 3) := by decide +kernel
theorem dL_isFenced_90 : decode cL_isFenced 90 = .ok (.bipush (-7), 2) := by decide +kernel
theorem dL_isFenced_92 : decode cL_isFenced 92 = .ok (.if_icmp .ne 18, 3) := by decide +kernel
theorem dL_isFenced_95 : decode cL_isFenced 95 = .ok (.aload_n 0, 1) := by decide +kernel
theorem dL_isFenced_96 : decode cL_isFenced 96 = .ok (.iconst 1, 1) := by decide +kernel
theorem dL_isFenced_97 : decode cL_isFenced 97 = .ok (.iconst 5, 1) := by decide +kernel
theorem dL_isFenced_98 : decode cL_isFenced 98 = .ok (.invokestatic 158, 3) := by decide +kernel
theorem dL_isFenced_101 : decode cL_isFenced 101 = .ok (.bipush (-7), 2) := by decide +kernel
theorem dL_isFenced_103 : decode cL_isFenced 103 = .ok (.if_icmp .ne 7, 3) := by decide +kernel
theorem dL_isFenced_106 : decode cL_isFenced 106 = .ok (.iconst 1, 1) := by decide +kernel
theorem dL_isFenced_107 : decode cL_isFenced 107 = .ok (.goto 4, 3) := by decide +kernel
theorem dL_isFenced_110 : decode cL_isFenced 110 = .ok (.iconst 0, 1) := by decide +kernel
theorem dL_isFenced_111 : decode cL_isFenced 111 = .ok (.ireturn, 1) := by decide +kernel
theorem dL_isFenced_112 : decode cL_isFenced 112 = .ok (.iconst 1, 1) := by decide +kernel
theorem dL_isFenced_113 : decode cL_isFenced 113 = .ok (.iload 11, 2) := by decide +kernel
theorem dL_isFenced_115 : decode cL_isFenced 115 = .ok (.bipush 6, 2) := by decide +kernel
theorem dL_isFenced_117 : decode cL_isFenced 117 = .ok (.irem, 1) := by decide +kernel
theorem dL_isFenced_118 : decode cL_isFenced 118 = .ok (.iadd, 1) := by decide +kernel
theorem dL_isFenced_119 : decode cL_isFenced 119 = .ok (.istore 13, 2) := by decide +kernel
theorem dL_isFenced_121 : decode cL_isFenced 121 = .ok (.iload 11, 2) := by decide +kernel
theorem dL_isFenced_123 : decode cL_isFenced 123 = .ok (.bipush 6, 2) := by decide +kernel
theorem dL_isFenced_125 : decode cL_isFenced 125 = .ok (.idiv, 1) := by decide +kernel
theorem dL_isFenced_126 : decode cL_isFenced 126 = .ok (.bipush 50, 2) := by decide +kernel
theorem dL_isFenced_128 : decode cL_isFenced 128 = .ok (.irem, 1) := by decide +kernel
theorem dL_isFenced_129 : decode cL_isFenced 129 = .ok (.istore 14, 2) := by decide +kernel
theorem dL_isFenced_131 : decode cL_isFenced 131 = .ok (.aload 8, 2) := by decide +kernel
theorem dL_isFenced_133 : decode cL_isFenced 133 = .ok (.iconst 1, 1) := by decide +kernel
theorem dL_isFenced_134 : decode cL_isFenced 134 = .ok (.iaload, 1) := by decide +kernel
theorem dL_isFenced_135 : decode cL_isFenced 135 = .ok (.istore 15, 2) := by decide +kernel
theorem dL_isFenced_137 : decode cL_isFenced 137 = .ok (.aload_n 0, 1) := by decide +kernel
theorem dL_isFenced_138 : decode cL_isFenced 138 = .ok (.invokestatic 152, 3) := by decide +kernel
theorem dL_isFenced_141 : decode cL_isFenced 141 = .ok (.aload_n 3, 1) := by decide +kernel
theorem dL_isFenced_142 : decode cL_isFenced 142 = .ok (.iload 15, 2) := by decide +kernel
theorem dL_isFenced_144 : decode cL_isFenced 144 = .ok (.iaload, 1) := by decide +kernel
theorem dL_isFenced_145 : decode cL_isFenced 145 = .ok (.if_icmp .ne 7, 3) := by decide +kernel
theorem dL_isFenced_148 : decode cL_isFenced 148 = .ok (.iconst 1, 1) := by decide +kernel
theorem dL_isFenced_149 : decode cL_isFenced 149 = .ok (.goto 4, 3) := by decide +kernel
theorem dL_isFenced_152 : decode cL_isFenced 152 = .ok (.iconst 0, 1) := by decide +kernel
theorem dL_isFenced_153 : decode cL_isFenced 153 = .ok (.istore 16, 2) := by decide +kernel
theorem dL_isFenced_155 : decode cL_isFenced 155 = .ok (.aload 8, 2) := by decide +kernel
theorem dL_isFenced_157 : decode cL_isFenced 157 = .ok (.iconst 5, 1) := by decide +kernel
theorem dL_isFenced_158 : decode cL_isFenced 158 = .ok (.iconst 0, 1) := by decide +kernel
theorem dL_isFenced_159 : decode cL_isFenced 159 = .ok (.iastore, 1) := by decide +kernel
theorem dL_isFenced_160 : decode cL_isFenced 160 = .ok (.aload 8, 2) := by decide +kernel
theorem dL_isFenced_162 : decode cL_isFenced 162 = .ok (.bipush 6, 2) := by decide +kernel
theorem dL_isFenced_164 : decode cL_isFenced 164 = .ok (.iconst 0, 1) := by decide +kernel
theorem dL_isFenced_165 : decode cL_isFenced 165 = .ok (.iastore, 1) := by decide +kernel
theorem dL_isFenced_166 : decode cL_isFenced 166 = .ok (.iconst 0, 1) := by decide +kernel
theorem dL_isFenced_167 : decode cL_isFenced 167 = .ok (.istore 17, 2) := by decide +kernel
theorem dL_isFenced_169 : decode cL_isFenced 169 = .ok (.iload 17, 2) := by decide +kernel
theorem dL_isFenced_171 : decode cL_isFenced 171 = .ok (.iload 13, 2) := by decide +kernel
theorem dL_isFenced_173 : decode cL_isFenced 173 = .ok (.if_icmp .ge 138, 3) := by decide +kernel
theorem dL_isFenced_176 : decode cL_isFenced 176 = .ok (.iload 16, 2) := by decide +kernel
theorem dL_isFenced_178 : decode cL_isFenced 178 = .ok (.ifCond .eq 133, 3) := by decide +kernel
theorem dL_isFenced_181 : decode cL_isFenced 181 = .ok (.aload 9, 2) := by decide +kernel
theorem dL_isFenced_183 : decode cL_isFenced 183 = .ok (.iload 10, 2) := by decide +kernel
theorem dL_isFenced_185 : decode cL_isFenced 185 = .ok (.iload 17, 2) := by decide +kernel
theorem dL_isFenced_187 : decode cL_isFenced 187 = .ok (.iadd, 1) := by decide +kernel
theorem dL_isFenced_188 : decode cL_isFenced 188 = .ok (.ldc 162, 2) := by decide +kernel
theorem dL_isFenced_190 : decode cL_isFenced 190 = .ok (.invokestatic 163, 3) := by decide +kernel
theorem dL_isFenced_193 : decode cL_isFenced 193 = .ok (.istore 18, 2) := by decide +kernel
theorem dL_isFenced_195 : decode cL_isFenced 195 = .ok (.aload 5, 2) := by decide +kernel
theorem dL_isFenced_197 : decode cL_isFenced 197 = .ok (.iload 17, 2) := by decide +kernel
theorem dL_isFenced_199 : decode cL_isFenced 199 = .ok (.iload 18, 2) := by decide +kernel
theorem dL_isFenced_201 : decode cL_isFenced 201 = .ok (.bipush 9, 2) := by decide +kernel
theorem dL_isFenced_203 : decode cL_isFenced 203 = .ok (.irem, 1) := by decide +kernel
theorem dL_isFenced_204 : decode cL_isFenced 204 = .ok (.bipush 7, 2) := by decide +kernel
theorem dL_isFenced_206 : decode cL_isFenced 206 = .ok (.if_icmp .ge 11, 3) := by decide +kernel
theorem dL_isFenced_209 : decode cL_isFenced 209 = .ok (.iload 18, 2) := by decide +kernel
theorem dL_isFenced_211 : decode cL_isFenced 211 = .ok (.bipush 9, 2) := by decide +kernel
theorem dL_isFenced_213 : decode cL_isFenced 213 = .ok (.irem, 1) := by decide +kernel
theorem dL_isFenced_214 : decode cL_isFenced 214 = .ok (.goto 15, 3) := by decide +kernel
theorem dL_isFenced_217 : decode cL_isFenced 217 = .ok (.iload 18, 2) := by decide +kernel
theorem dL_isFenced_219 : decode cL_isFenced 219 = .ok (.iconst 2, 1) := by decide +kernel
theorem dL_isFenced_220 : decode cL_isFenced 220 = .ok (.irem, 1) := by decide +kernel
theorem dL_isFenced_221 : decode cL_isFenced 221 = .ok (.ifCond .ne 7, 3) := by decide +kernel
theorem dL_isFenced_224 : decode cL_isFenced 224 = .ok (.iconst 1, 1) := by decide +kernel
theorem dL_isFenced_225 : decode cL_isFenced 225 = .ok (.goto 4, 3) := by decide +kernel
theorem dL_isFenced_228 : decode cL_isFenced 228 = .ok (.iconst 3, 1) := by decide +kernel
theorem dL_isFenced_229 : decode cL_isFenced 229 = .ok (.iastore, 1) := by decide +kernel
theorem dL_isFenced_230 : decode cL_isFenced 230 = .ok (.iload 14, 2) := by decide +kernel
theorem dL_isFenced_232 : decode cL_isFenced 232 = .ok (.iload 18, 2) := by decide +kernel
theorem dL_isFenced_234 : decode cL_isFenced 234 = .ok (.bipush 9, 2) := by decide +kernel
theorem dL_isFenced_236 : decode cL_isFenced 236 = .ok (.idiv, 1) := by decide +kernel
theorem dL_isFenced_237 : decode cL_isFenced 237 = .ok (.iconst 4, 1) := by decide +kernel
theorem dL_isFenced_238 : decode cL_isFenced 238 = .ok (.irem, 1) := by decide +kernel
theorem dL_isFenced_239 : decode cL_isFenced 239 = .ok (.ifCond .ne 15, 3) := by decide +kernel
theorem dL_isFenced_242 : decode cL_isFenced 242 = .ok (.iload 18, 2) := by decide +kernel
theorem dL_isFenced_244 : decode cL_isFenced 244 = .ok (.bipush 36, 2) := by decide +kernel
theorem dL_isFenced_246 : decode cL_isFenced 246 = .ok (.idiv, 1) := by decide +kernel
theorem dL_isFenced_247 : decode cL_isFenced 247 = .ok (.sipush 400, 3) := by decide +kernel
theorem dL_isFenced_250 : decode cL_isFenced 250 = .ok (.irem, 1) := by decide +kernel
theorem dL_isFenced_251 : decode cL_isFenced 251 = .ok (.goto 11, 3) := by decide +kernel
theorem dL_isFenced_254 : decode cL_isFenced 254 = .ok (.iload 18, 2) := by decide +kernel
theorem dL_isFenced_256 : decode cL_isFenced 256 = .ok (.bipush 36, 2) := by decide +kernel
theorem dL_isFenced_258 : decode cL_isFenced 258 = .ok (.idiv, 1) := by decide +kernel
theorem dL_isFenced_259 : decode cL_isFenced 259 = .ok (.bipush 45, 2) := by decide +kernel
theorem dL_isFenced_261 : decode cL_isFenced 261 = .ok (.irem, 1) := by decide +kernel
theorem dL_isFenced_262 : decode cL_isFenced 262 = .ok (.iadd, 1) := by decide +kernel
theorem dL_isFenced_263 : decode cL_isFenced 263 = .ok (.istore 14, 2) := by decide +kernel
theorem dL_isFenced_265 : decode cL_isFenced 265 = .ok (.aload 6, 2) := by decide +kernel
theorem dL_isFenced_267 : decode cL_isFenced 267 = .ok (.iload 17, 2) := by decide +kernel
theorem dL_isFenced_269 : decode cL_isFenced 269 = .ok (.iload 14, 2) := by decide +kernel
theorem dL_isFenced_271 : decode cL_isFenced 271 = .ok (.iastore, 1) := by decide +kernel
theorem dL_isFenced_272 : decode cL_isFenced 272 = .ok (.aload 8, 2) := by decide +kernel
theorem dL_isFenced_274 : decode cL_isFenced 274 = .ok (.iconst 5, 1) := by decide +kernel
theorem dL_isFenced_275 : decode cL_isFenced 275 = .ok (.dup2, 1) := by decide +kernel
theorem dL_isFenced_276 : decode cL_isFenced 276 = .ok (.iaload, 1) := by decide +kernel
theorem dL_isFenced_277 : decode cL_isFenced 277 = .ok (.iconst 1, 1) := by decide +kernel
theorem dL_isFenced_278 : decode cL_isFenced 278 = .ok (.iadd, 1) := by decide +kernel
theorem dL_isFenced_279 : decode cL_isFenced 279 = .ok (.iastore, 1) := by decide +kernel
theorem dL_isFenced_280 : decode cL_isFenced 280 = .ok (.aload_n 0, 1) := by decide +kernel
theorem dL_isFenced_281 : decode cL_isFenced 281 = .ok (.aload 5, 2) := by decide +kernel
theorem dL_isFenced_283 : decode cL_isFenced 283 = .ok (.iload 17, 2) := by decide +kernel
theorem dL_isFenced_285 : decode cL_isFenced 285 = .ok (.iaload, 1) := by decide +kernel
theorem dL_isFenced_286 : decode cL_isFenced 286 = .ok (.iload 14, 2) := by decide +kernel
theorem dL_isFenced_288 : decode cL_isFenced 288 = .ok (.invokestatic 158, 3) := by decide +kernel
theorem dL_isFenced_291 : decode cL_isFenced 291 = .ok (.aload 8, 2) := by decide +kernel
theorem dL_isFenced_293 : decode cL_isFenced 293 = .ok (.iconst 5, 1) := by decide +kernel
theorem dL_isFenced_294 : decode cL_isFenced 294 = .ok (.iaload, 1) := by decide +kernel
theorem dL_isFenced_295 : decode cL_isFenced 295 = .ok (.if_icmp .ne 7, 3) := by decide +kernel
theorem dL_isFenced_298 : decode cL_isFenced 298 = .ok (.iconst 1, 1) := by decide +kernel
theorem dL_isFenced_299 : decode cL_isFenced 299 = .ok (.goto 4, 3) := by decide +kernel
theorem dL_isFenced_302 : decode cL_isFenced 302 = .ok (.iconst 0, 1) := by decide +kernel
theorem dL_isFenced_303 : decode cL_isFenced 303 = .ok (.istore 16, 2) := by decide +kernel
theorem dL_isFenced_305 : decode cL_isFenced 305 = .ok (.iinc 17 1, 3) := by decide +kernel
theorem dL_isFenced_308 : decode cL_isFenced 308 = .ok (.goto (-139), 3) := by decide +kernel
theorem dL_isFenced_311 : decode cL_isFenced 311 = .ok (.iload 16, 2) := by decide +kernel
theorem dL_isFenced_313 : decode cL_isFenced 313 = .ok (.ifCond .eq 44, 3) := by decide +kernel
theorem dL_isFenced_316 : decode cL_isFenced 316 = .ok (.aload_n 0, 1) := by decide +kernel
theorem dL_isFenced_317 : decode cL_isFenced 317 = .ok (.invokevirtual 53, 3) := by decide +kernel
theorem dL_isFenced_320 : decode cL_isFenced 320 = .ok (.ifCond .eq 37, 3) := by decide +kernel
theorem dL_isFenced_323 : decode cL_isFenced 323 = .ok (.aload_n 0, 1) := by decide +kernel
theorem dL_isFenced_324 : decode cL_isFenced 324 = .ok (.invokestatic 152, 3) := by decide +kernel
theorem dL_isFenced_327 : decode cL_isFenced 327 = .ok (.bipush (-7), 2) := by decide +kernel
theorem dL_isFenced_329 : decode cL_isFenced 329 = .ok (.if_icmp .ne 28, 3) := by decide +kernel
theorem dL_isFenced_332 : decode cL_isFenced 332 = .ok (.aload 8, 2) := by decide +kernel
theorem dL_isFenced_334 : decode cL_isFenced 334 = .ok (.iconst 0, 1) := by decide +kernel
theorem dL_isFenced_335 : decode cL_isFenced 335 = .ok (.iaload, 1) := by decide +kernel
theorem dL_isFenced_336 : decode cL_isFenced 336 = .ok (.ifCond .eq 17, 3) := by decide +kernel
theorem dL_isFenced_339 : decode cL_isFenced 339 = .ok (.aload_n 0, 1) := by decide +kernel
theorem dL_isFenced_340 : decode cL_isFenced 340 = .ok (.iconst 0, 1) := by decide +kernel
theorem dL_isFenced_341 : decode cL_isFenced 341 = .ok (.sipush 600, 3) := by decide +kernel
theorem dL_isFenced_344 : decode cL_isFenced 344 = .ok (.iconst 1, 1) := by decide +kernel
theorem dL_isFenced_345 : decode cL_isFenced 345 = .ok (.invokestatic 166, 3) := by decide +kernel
theorem dL_isFenced_348 : decode cL_isFenced 348 = .ok (.bipush (-7), 2) := by decide +kernel
theorem dL_isFenced_350 : decode cL_isFenced 350 = .ok (.if_icmp .ne 7, 3) := by decide +kernel
theorem dL_isFenced_353 : decode cL_isFenced 353 = .ok (.iconst 1, 1) := by decide +kernel
theorem dL_isFenced_354 : decode cL_isFenced 354 = .ok (.goto 4, 3) := by decide +kernel
theorem dL_isFenced_357 : decode cL_isFenced 357 = .ok (.iconst 0, 1) := by decide +kernel
theorem dL_isFenced_358 : decode cL_isFenced 358 = .ok (.istore 16, 2) := by decide +kernel
theorem dL_isFenced_360 : decode cL_isFenced 360 = .ok (.aload_n 3, 1) := by decide +kernel
theorem dL_isFenced_361 : decode cL_isFenced 361 = .ok (.iload 15, 2) := by decide +kernel
theorem dL_isFenced_363 : decode cL_isFenced 363 = .ok (.iaload, 1) := by decide +kernel
theorem dL_isFenced_364 : decode cL_isFenced 364 = .ok (.istore 17, 2) := by decide +kernel
theorem dL_isFenced_366 : decode cL_isFenced 366 = .ok (.iconst 3, 1) := by decide +kernel
theorem dL_isFenced_367 : decode cL_isFenced 367 = .ok (.istore 18, 2) := by decide +kernel
theorem dL_isFenced_369 : decode cL_isFenced 369 = .ok (.aload 5, 2) := by decide +kernel
theorem dL_isFenced_371 : decode cL_isFenced 371 = .ok (.aload 6, 2) := by decide +kernel
theorem dL_isFenced_373 : decode cL_isFenced 373 = .ok (.aload 8, 2) := by decide +kernel
theorem dL_isFenced_375 : decode cL_isFenced 375 = .ok (.iconst (-1), 1) := by decide +kernel
theorem dL_isFenced_376 : decode cL_isFenced 376 = .ok (.invokestatic 169, 3) := by decide +kernel
theorem dL_isFenced_379 : decode cL_isFenced 379 = .ok (.istore 19, 2) := by decide +kernel
theorem dL_isFenced_381 : decode cL_isFenced 381 = .ok (.aload 5, 2) := by decide +kernel
theorem dL_isFenced_383 : decode cL_isFenced 383 = .ok (.aload 6, 2) := by decide +kernel
theorem dL_isFenced_385 : decode cL_isFenced 385 = .ok (.aload 8, 2) := by decide +kernel
theorem dL_isFenced_387 : decode cL_isFenced 387 = .ok (.iconst 0, 1) := by decide +kernel
theorem dL_isFenced_388 : decode cL_isFenced 388 = .ok (.invokestatic 169, 3) := by decide +kernel
theorem dL_isFenced_391 : decode cL_isFenced 391 = .ok (.istore 20, 2) := by decide +kernel
theorem dL_isFenced_393 : decode cL_isFenced 393 = .ok (.aload 5, 2) := by decide +kernel
theorem dL_isFenced_395 : decode cL_isFenced 395 = .ok (.aload 6, 2) := by decide +kernel
theorem dL_isFenced_397 : decode cL_isFenced 397 = .ok (.aload 8, 2) := by decide +kernel
theorem dL_isFenced_399 : decode cL_isFenced 399 = .ok (.iconst 1, 1) := by decide +kernel
theorem dL_isFenced_400 : decode cL_isFenced 400 = .ok (.invokestatic 169, 3) := by decide +kernel
theorem dL_isFenced_403 : decode cL_isFenced 403 = .ok (.istore 21, 2) := by decide +kernel
theorem dL_isFenced_405 : decode cL_isFenced 405 = .ok (.aload 5, 2) := by decide +kernel
theorem dL_isFenced_407 : decode cL_isFenced 407 = .ok (.aload 6, 2) := by decide +kernel
theorem dL_isFenced_409 : decode cL_isFenced 409 = .ok (.aload 8, 2) := by decide +kernel
theorem dL_isFenced_411 : decode cL_isFenced 411 = .ok (.bipush (-2), 2) := by decide +kernel
theorem dL_isFenced_413 : decode cL_isFenced 413 = .ok (.invokestatic 169, 3) := by decide +kernel
theorem dL_isFenced_416 : decode cL_isFenced 416 = .ok (.istore 22, 2) := by decide +kernel
theorem dL_isFenced_418 : decode cL_isFenced 418 = .ok (.iload 22, 2) := by decide +kernel
theorem dL_isFenced_420 : decode cL_isFenced 420 = .ok (.iload 19, 2) := by decide +kernel
theorem dL_isFenced_422 : decode cL_isFenced 422 = .ok (.if_icmp .ne 7, 3) := by decide +kernel
theorem dL_isFenced_425 : decode cL_isFenced 425 = .ok (.iconst 0, 1) := by decide +kernel
theorem dL_isFenced_426 : decode cL_isFenced 426 = .ok (.goto 15, 3) := by decide +kernel
theorem dL_isFenced_429 : decode cL_isFenced 429 = .ok (.iload 22, 2) := by decide +kernel
theorem dL_isFenced_431 : decode cL_isFenced 431 = .ok (.iload 20, 2) := by decide +kernel
theorem dL_isFenced_433 : decode cL_isFenced 433 = .ok (.if_icmp .ne 7, 3) := by decide +kernel
theorem dL_isFenced_436 : decode cL_isFenced 436 = .ok (.iconst 1, 1) := by decide +kernel
theorem dL_isFenced_437 : decode cL_isFenced 437 = .ok (.goto 4, 3) := by decide +kernel
theorem dL_isFenced_440 : decode cL_isFenced 440 = .ok (.iconst 2, 1) := by decide +kernel
theorem dL_isFenced_441 : decode cL_isFenced 441 = .ok (.istore 18, 2) := by decide +kernel
theorem dL_isFenced_443 : decode cL_isFenced 443 = .ok (.aload 8, 2) := by decide +kernel
theorem dL_isFenced_445 : decode cL_isFenced 445 = .ok (.iconst 2, 1) := by decide +kernel
theorem dL_isFenced_446 : decode cL_isFenced 446 = .ok (.iaload, 1) := by decide +kernel
theorem dL_isFenced_447 : decode cL_isFenced 447 = .ok (.i2l, 1) := by decide +kernel
theorem dL_isFenced_448 : decode cL_isFenced 448 = .ok (.ldc2_w 173, 3) := by decide +kernel
theorem dL_isFenced_451 : decode cL_isFenced 451 = .ok (.aload 8, 2) := by decide +kernel
theorem dL_isFenced_453 : decode cL_isFenced 453 = .ok (.iconst 3, 1) := by decide +kernel
theorem dL_isFenced_454 : decode cL_isFenced 454 = .ok (.iaload, 1) := by decide +kernel
theorem dL_isFenced_455 : decode cL_isFenced 455 = .ok (.i2l, 1) := by decide +kernel
theorem dL_isFenced_456 : decode cL_isFenced 456 = .ok (.lmul, 1) := by decide +kernel
theorem dL_isFenced_457 : decode cL_isFenced 457 = .ok (.ladd, 1) := by decide +kernel
theorem dL_isFenced_458 : decode cL_isFenced 458 = .ok (.ldc2_w 175, 3) := by decide +kernel
theorem dL_isFenced_461 : decode cL_isFenced 461 = .ok (.iload 19, 2) := by decide +kernel
theorem dL_isFenced_463 : decode cL_isFenced 463 = .ok (.i2l, 1) := by decide +kernel
theorem dL_isFenced_464 : decode cL_isFenced 464 = .ok (.lmul, 1) := by decide +kernel
theorem dL_isFenced_465 : decode cL_isFenced 465 = .ok (.ladd, 1) := by decide +kernel
theorem dL_isFenced_466 : decode cL_isFenced 466 = .ok (.ldc2_w 177, 3) := by decide +kernel
theorem dL_isFenced_469 : decode cL_isFenced 469 = .ok (.iload 20, 2) := by decide +kernel
theorem dL_isFenced_471 : decode cL_isFenced 471 = .ok (.i2l, 1) := by decide +kernel
theorem dL_isFenced_472 : decode cL_isFenced 472 = .ok (.lmul, 1) := by decide +kernel
theorem dL_isFenced_473 : decode cL_isFenced 473 = .ok (.ladd, 1) := by decide +kernel
theorem dL_isFenced_474 : decode cL_isFenced 474 = .ok (.ldc2_w 179, 3) := by decide +kernel
theorem dL_isFenced_477 : decode cL_isFenced 477 = .ok (.iload 21, 2) := by decide +kernel
theorem dL_isFenced_479 : decode cL_isFenced 479 = .ok (.i2l, 1) := by decide +kernel
theorem dL_isFenced_480 : decode cL_isFenced 480 = .ok (.lmul, 1) := by decide +kernel
theorem dL_isFenced_481 : decode cL_isFenced 481 = .ok (.ladd, 1) := by decide +kernel
theorem dL_isFenced_482 : decode cL_isFenced 482 = .ok (.ldc2_w 181, 3) := by decide +kernel
theorem dL_isFenced_485 : decode cL_isFenced 485 = .ok (.iload 18, 2) := by decide +kernel
theorem dL_isFenced_487 : decode cL_isFenced 487 = .ok (.i2l, 1) := by decide +kernel
theorem dL_isFenced_488 : decode cL_isFenced 488 = .ok (.lmul, 1) := by decide +kernel
theorem dL_isFenced_489 : decode cL_isFenced 489 = .ok (.ladd, 1) := by decide +kernel
theorem dL_isFenced_490 : decode cL_isFenced 490 = .ok (.lstore 23, 2) := by decide +kernel
theorem dL_isFenced_492 : decode cL_isFenced 492 = .ok (.bipush 16, 2) := by decide +kernel
theorem dL_isFenced_494 : decode cL_isFenced 494 = .ok (.iload 17, 2) := by decide +kernel
theorem dL_isFenced_496 : decode cL_isFenced 496 = .ok (.iconst 4, 1) := by decide +kernel
theorem dL_isFenced_497 : decode cL_isFenced 497 = .ok (.irem, 1) := by decide +kernel
theorem dL_isFenced_498 : decode cL_isFenced 498 = .ok (.imul, 1) := by decide +kernel
theorem dL_isFenced_499 : decode cL_isFenced 499 = .ok (.istore 25, 2) := by decide +kernel
theorem dL_isFenced_501 : decode cL_isFenced 501 = .ok (.aload_n 2, 1) := by decide +kernel
theorem dL_isFenced_502 : decode cL_isFenced 502 = .ok (.iconst 3, 1) := by decide +kernel
theorem dL_isFenced_503 : decode cL_isFenced 503 = .ok (.iload 15, 2) := by decide +kernel
theorem dL_isFenced_505 : decode cL_isFenced 505 = .ok (.imul, 1) := by decide +kernel
theorem dL_isFenced_506 : decode cL_isFenced 506 = .ok (.iload 17, 2) := by decide +kernel
theorem dL_isFenced_508 : decode cL_isFenced 508 = .ok (.iconst 4, 1) := by decide +kernel
theorem dL_isFenced_509 : decode cL_isFenced 509 = .ok (.idiv, 1) := by decide +kernel
theorem dL_isFenced_510 : decode cL_isFenced 510 = .ok (.iadd, 1) := by decide +kernel
theorem dL_isFenced_511 : decode cL_isFenced 511 = .ok (.aload_n 2, 1) := by decide +kernel
theorem dL_isFenced_512 : decode cL_isFenced 512 = .ok (.iconst 3, 1) := by decide +kernel
theorem dL_isFenced_513 : decode cL_isFenced 513 = .ok (.iload 15, 2) := by decide +kernel
theorem dL_isFenced_515 : decode cL_isFenced 515 = .ok (.imul, 1) := by decide +kernel
theorem dL_isFenced_516 : decode cL_isFenced 516 = .ok (.iload 17, 2) := by decide +kernel
theorem dL_isFenced_518 : decode cL_isFenced 518 = .ok (.iconst 4, 1) := by decide +kernel
theorem dL_isFenced_519 : decode cL_isFenced 519 = .ok (.idiv, 1) := by decide +kernel
theorem dL_isFenced_520 : decode cL_isFenced 520 = .ok (.iadd, 1) := by decide +kernel
theorem dL_isFenced_521 : decode cL_isFenced 521 = .ok (.laload, 1) := by decide +kernel
theorem dL_isFenced_522 : decode cL_isFenced 522 = .ok (.ldc2_w 183, 3) := by decide +kernel
theorem dL_isFenced_525 : decode cL_isFenced 525 = .ok (.iload 25, 2) := by decide +kernel
theorem dL_isFenced_527 : decode cL_isFenced 527 = .ok (.lshl, 1) := by decide +kernel
theorem dL_isFenced_528 : decode cL_isFenced 528 = .ok (.ldc2_w 185, 3) := by decide +kernel
theorem dL_isFenced_531 : decode cL_isFenced 531 = .ok (.lxor, 1) := by decide +kernel
theorem dL_isFenced_532 : decode cL_isFenced 532 = .ok (.land, 1) := by decide +kernel
theorem dL_isFenced_533 : decode cL_isFenced 533 = .ok (.lload 23, 2) := by decide +kernel
theorem dL_isFenced_535 : decode cL_isFenced 535 = .ok (.iload 25, 2) := by decide +kernel
theorem dL_isFenced_537 : decode cL_isFenced 537 = .ok (.lshl, 1) := by decide +kernel
theorem dL_isFenced_538 : decode cL_isFenced 538 = .ok (.lor, 1) := by decide +kernel
theorem dL_isFenced_539 : decode cL_isFenced 539 = .ok (.lastore, 1) := by decide +kernel
theorem dL_isFenced_540 : decode cL_isFenced 540 = .ok (.aload_n 3, 1) := by decide +kernel
theorem dL_isFenced_541 : decode cL_isFenced 541 = .ok (.iload 15, 2) := by decide +kernel
theorem dL_isFenced_543 : decode cL_isFenced 543 = .ok (.dup2, 1) := by decide +kernel
theorem dL_isFenced_544 : decode cL_isFenced 544 = .ok (.iaload, 1) := by decide +kernel
theorem dL_isFenced_545 : decode cL_isFenced 545 = .ok (.iconst 1, 1) := by decide +kernel
theorem dL_isFenced_546 : decode cL_isFenced 546 = .ok (.iadd, 1) := by decide +kernel
theorem dL_isFenced_547 : decode cL_isFenced 547 = .ok (.iastore, 1) := by decide +kernel
theorem dL_isFenced_548 : decode cL_isFenced 548 = .ok (.aload 8, 2) := by decide +kernel
theorem dL_isFenced_550 : decode cL_isFenced 550 = .ok (.bipush 6, 2) := by decide +kernel
theorem dL_isFenced_552 : decode cL_isFenced 552 = .ok (.iconst 1, 1) := by decide +kernel
theorem dL_isFenced_553 : decode cL_isFenced 553 = .ok (.iastore, 1) := by decide +kernel
theorem dL_isFenced_554 : decode cL_isFenced 554 = .ok (.iload 16, 2) := by decide +kernel
theorem dL_isFenced_556 : decode cL_isFenced 556 = .ok (.ifCond .eq 16, 3) := by decide +kernel
theorem dL_isFenced_559 : decode cL_isFenced 559 = .ok (.aload_n 0, 1) := by decide +kernel
theorem dL_isFenced_560 : decode cL_isFenced 560 = .ok (.invokestatic 155, 3) := by decide +kernel
theorem dL_isFenced_563 : decode cL_isFenced 563 = .ok (.iload 22, 2) := by decide +kernel
theorem dL_isFenced_565 : decode cL_isFenced 565 = .ok (.if_icmp .ne 7, 3) := by decide +kernel
theorem dL_isFenced_568 : decode cL_isFenced 568 = .ok (.iconst 1, 1) := by decide +kernel
theorem dL_isFenced_569 : decode cL_isFenced 569 = .ok (.goto 4, 3) := by decide +kernel
theorem dL_isFenced_572 : decode cL_isFenced 572 = .ok (.iconst 0, 1) := by decide +kernel
theorem dL_isFenced_573 : decode cL_isFenced 573 = .ok (.istore 16, 2) := by decide +kernel
theorem dL_isFenced_575 : decode cL_isFenced 575 = .ok (.aload_n 1, 1) := by decide +kernel
theorem dL_isFenced_576 : decode cL_isFenced 576 = .ok (.aload_n 2, 1) := by decide +kernel
theorem dL_isFenced_577 : decode cL_isFenced 577 = .ok (.aload_n 3, 1) := by decide +kernel
theorem dL_isFenced_578 : decode cL_isFenced 578 = .ok (.aload 4, 2) := by decide +kernel
theorem dL_isFenced_580 : decode cL_isFenced 580 = .ok (.aload 7, 2) := by decide +kernel
theorem dL_isFenced_582 : decode cL_isFenced 582 = .ok (.aload 8, 2) := by decide +kernel
theorem dL_isFenced_584 : decode cL_isFenced 584 = .ok (.invokestatic 187, 3) := by decide +kernel
theorem dL_isFenced_587 : decode cL_isFenced 587 = .ok (.iload 16, 2) := by decide +kernel
theorem dL_isFenced_589 : decode cL_isFenced 589 = .ok (.ireturn, 1) := by decide +kernel
theorem dL_isAppealed_0 : decode cL_isAppealed 0 = .ok (.iload 7, 2) := by decide +kernel
theorem dL_isAppealed_2 : decode cL_isAppealed 2 = .ok (.iconst 2, 1) := by decide +kernel
theorem dL_isAppealed_3 : decode cL_isAppealed 3 = .ok (.irem, 1) := by decide +kernel
theorem dL_isAppealed_4 : decode cL_isAppealed 4 = .ok (.istore 8, 2) := by decide +kernel
theorem dL_isAppealed_6 : decode cL_isAppealed 6 = .ok (.iload 7, 2) := by decide +kernel
theorem dL_isAppealed_8 : decode cL_isAppealed 8 = .ok (.iconst 2, 1) := by decide +kernel
theorem dL_isAppealed_9 : decode cL_isAppealed 9 = .ok (.idiv, 1) := by decide +kernel
theorem dL_isAppealed_10 : decode cL_isAppealed 10 = .ok (.iconst 3, 1) := by decide +kernel
theorem dL_isAppealed_11 : decode cL_isAppealed 11 = .ok (.irem, 1) := by decide +kernel
theorem dL_isAppealed_12 : decode cL_isAppealed 12 = .ok (.iconst 1, 1) := by decide +kernel
theorem dL_isAppealed_13 : decode cL_isAppealed 13 = .ok (.isub, 1) := by decide +kernel
theorem dL_isAppealed_14 : decode cL_isAppealed 14 = .ok (.istore 9, 2) := by decide +kernel
theorem dL_isAppealed_16 : decode cL_isAppealed 16 = .ok (.aload 6, 2) := by decide +kernel
theorem dL_isAppealed_18 : decode cL_isAppealed 18 = .ok (.iconst 1, 1) := by decide +kernel
theorem dL_isAppealed_19 : decode cL_isAppealed 19 = .ok (.iaload, 1) := by decide +kernel
theorem dL_isAppealed_20 : decode cL_isAppealed 20 = .ok (.ifCond .lt 35, 3) := by decide +kernel
theorem dL_isAppealed_23 : decode cL_isAppealed 23 = .ok (.aload 6, 2) := by decide +kernel
theorem dL_isAppealed_25 : decode cL_isAppealed 25 = .ok (.iconst 4, 1) := by decide +kernel
theorem dL_isAppealed_26 : decode cL_isAppealed 26 = .ok (.iaload, 1) := by decide +kernel
theorem dL_isAppealed_27 : decode cL_isAppealed 27 = .ok (.iconst 1, 1) := by decide +kernel
theorem dL_isAppealed_28 : decode cL_isAppealed 28 = .ok (.if_icmp .eq 27, 3) := by decide +kernel
theorem dL_isAppealed_31 : decode cL_isAppealed 31 = .ok (.aload 6, 2) := by decide +kernel
theorem dL_isAppealed_33 : decode cL_isAppealed 33 = .ok (.bipush 6, 2) := by decide +kernel
theorem dL_isAppealed_35 : decode cL_isAppealed 35 = .ok (.iaload, 1) := by decide +kernel
theorem dL_isAppealed_36 : decode cL_isAppealed 36 = .ok (.ifCond .eq 19, 3) := by decide +kernel
theorem dL_isAppealed_39 : decode cL_isAppealed 39 = .ok (.aload 4, 2) := by decide +kernel
theorem dL_isAppealed_41 : decode cL_isAppealed 41 = .ok (.iconst 2, 1) := by decide +kernel
theorem dL_isAppealed_42 : decode cL_isAppealed 42 = .ok (.aload 6, 2) := by decide +kernel
theorem dL_isAppealed_44 : decode cL_isAppealed 44 = .ok (.iconst 1, 1) := by decide +kernel
theorem dL_isAppealed_45 : decode cL_isAppealed 45 = .ok (.iaload, 1) := by decide +kernel
theorem dL_isAppealed_46 : decode cL_isAppealed 46 = .ok (.imul, 1) := by decide +kernel
theorem dL_isAppealed_47 : decode cL_isAppealed 47 = .ok (.iload 8, 2) := by decide +kernel
theorem dL_isAppealed_49 : decode cL_isAppealed 49 = .ok (.iadd, 1) := by decide +kernel
theorem dL_isAppealed_50 : decode cL_isAppealed 50 = .ok (.iaload, 1) := by decide +kernel
theorem dL_isAppealed_51 : decode cL_isAppealed 51 = .ok (.iconst 2, 1) := by decide +kernel
theorem dL_isAppealed_52 : decode cL_isAppealed 52 = .ok (.if_icmp .ne 22, 3) := by decide +kernel
theorem dL_isAppealed_55 : decode cL_isAppealed 55 = .ok (.aload_n 0, 1) := by decide +kernel
theorem dL_isAppealed_56 : decode cL_isAppealed 56 = .ok (.iload 8, 2) := by decide +kernel
theorem dL_isAppealed_58 : decode cL_isAppealed 58 = .ok (.iload 9, 2) := by decide +kernel
theorem dL_isAppealed_60 : decode cL_isAppealed 60 = .ok (.invokestatic 191, 3) := by decide +kernel
theorem dL_isAppealed_63 : decode cL_isAppealed 63 = .ok (.bipush (-7), 2) := by decide +kernel
theorem dL_isAppealed_65 : decode cL_isAppealed 65 = .ok (.if_icmp .ne 7, 3) := by decide +kernel
theorem dL_isAppealed_68 : decode cL_isAppealed 68 = .ok (.iconst 1, 1) := by decide +kernel
theorem dL_isAppealed_69 : decode cL_isAppealed 69 = .ok (.goto 4, 3) := by decide +kernel
theorem dL_isAppealed_72 : decode cL_isAppealed 72 = .ok (.iconst 0, 1) := by decide +kernel
theorem dL_isAppealed_73 : decode cL_isAppealed 73 = .ok (.ireturn, 1) := by decide +kernel
theorem dL_isAppealed_74 : decode cL_isAppealed 74 = .ok (.aload 6, 2) := by decide +kernel
theorem dL_isAppealed_76 : decode cL_isAppealed 76 = .ok (.iconst 1, 1) := by decide +kernel
theorem dL_isAppealed_77 : decode cL_isAppealed 77 = .ok (.iaload, 1) := by decide +kernel
theorem dL_isAppealed_78 : decode cL_isAppealed 78 = .ok (.istore 10, 2) := by decide +kernel
theorem dL_isAppealed_80 : decode cL_isAppealed 80 = .ok (.aload_n 3, 1) := by decide +kernel
theorem dL_isAppealed_81 : decode cL_isAppealed 81 = .ok (.iload 10, 2) := by decide +kernel
theorem dL_isAppealed_83 : decode cL_isAppealed 83 = .ok (.iaload, 1) := by decide +kernel
theorem dL_isAppealed_84 : decode cL_isAppealed 84 = .ok (.iconst 1, 1) := by decide +kernel
theorem dL_isAppealed_85 : decode cL_isAppealed 85 = .ok (.isub, 1) := by decide +kernel
theorem dL_isAppealed_86 : decode cL_isAppealed 86 = .ok (.istore 11, 2) := by decide +kernel
theorem dL_isAppealed_88 : decode cL_isAppealed 88 = .ok (.aload_n 1, 1) := by decide +kernel
theorem dL_isAppealed_89 : decode cL_isAppealed 89 = .ok (.aload_n 2, 1) := by decide +kernel
theorem dL_isAppealed_90 : decode cL_isAppealed 90 = .ok (.iload 10, 2) := by decide +kernel
theorem dL_isAppealed_92 : decode cL_isAppealed 92 = .ok (.iload 11, 2) := by decide +kernel
theorem dL_isAppealed_94 : decode cL_isAppealed 94 = .ok (.invokestatic 19, 3) := by decide +kernel
theorem dL_isAppealed_97 : decode cL_isAppealed 97 = .ok (.istore 12, 2) := by decide +kernel
theorem dL_isAppealed_99 : decode cL_isAppealed 99 = .ok (.bipush 16, 2) := by decide +kernel
theorem dL_isAppealed_101 : decode cL_isAppealed 101 = .ok (.iload 11, 2) := by decide +kernel
theorem dL_isAppealed_103 : decode cL_isAppealed 103 = .ok (.iconst 4, 1) := by decide +kernel
theorem dL_isAppealed_104 : decode cL_isAppealed 104 = .ok (.irem, 1) := by decide +kernel
theorem dL_isAppealed_105 : decode cL_isAppealed 105 = .ok (.imul, 1) := by decide +kernel
theorem dL_isAppealed_106 : decode cL_isAppealed 106 = .ok (.bipush 14, 2) := by decide +kernel
theorem dL_isAppealed_108 : decode cL_isAppealed 108 = .ok (.iadd, 1) := by decide +kernel
theorem dL_isAppealed_109 : decode cL_isAppealed 109 = .ok (.istore 13, 2) := by decide +kernel
theorem dL_isAppealed_111 : decode cL_isAppealed 111 = .ok (.aload_n 2, 1) := by decide +kernel
theorem dL_isAppealed_112 : decode cL_isAppealed 112 = .ok (.iconst 3, 1) := by decide +kernel
theorem dL_isAppealed_113 : decode cL_isAppealed 113 = .ok (.iload 10, 2) := by decide +kernel
theorem dL_isAppealed_115 : decode cL_isAppealed 115 = .ok (.imul, 1) := by decide +kernel
theorem dL_isAppealed_116 : decode cL_isAppealed 116 = .ok (.iload 11, 2) := by decide +kernel
theorem dL_isAppealed_118 : decode cL_isAppealed 118 = .ok (.iconst 4, 1) := by decide +kernel
theorem dL_isAppealed_119 : decode cL_isAppealed 119 = .ok (.idiv, 1) := by decide +kernel
theorem dL_isAppealed_120 : decode cL_isAppealed 120 = .ok (.iadd, 1) := by decide +kernel
theorem dL_isAppealed_121 : decode cL_isAppealed 121 = .ok (.aload_n 2, 1) := by decide +kernel
theorem dL_isAppealed_122 : decode cL_isAppealed 122 = .ok (.iconst 3, 1) := by decide +kernel
theorem dL_isAppealed_123 : decode cL_isAppealed 123 = .ok (.iload 10, 2) := by decide +kernel
theorem dL_isAppealed_125 : decode cL_isAppealed 125 = .ok (.imul, 1) := by decide +kernel
theorem dL_isAppealed_126 : decode cL_isAppealed 126 = .ok (.iload 11, 2) := by decide +kernel
theorem dL_isAppealed_128 : decode cL_isAppealed 128 = .ok (.iconst 4, 1) := by decide +kernel
theorem dL_isAppealed_129 : decode cL_isAppealed 129 = .ok (.idiv, 1) := by decide +kernel
theorem dL_isAppealed_130 : decode cL_isAppealed 130 = .ok (.iadd, 1) := by decide +kernel
theorem dL_isAppealed_131 : decode cL_isAppealed 131 = .ok (.laload, 1) := by decide +kernel
theorem dL_isAppealed_132 : decode cL_isAppealed 132 = .ok (.ldc2_w 194, 3) := by decide +kernel
theorem dL_isAppealed_135 : decode cL_isAppealed 135 = .ok (.iload 13, 2) := by decide +kernel
theorem dL_isAppealed_137 : decode cL_isAppealed 137 = .ok (.lshl, 1) := by decide +kernel
theorem dL_isAppealed_138 : decode cL_isAppealed 138 = .ok (.ldc2_w 185, 3) := by decide +kernel
theorem dL_isAppealed_141 : decode cL_isAppealed 141 = .ok (.lxor, 1) := by decide +kernel
theorem dL_isAppealed_142 : decode cL_isAppealed 142 = .ok (.land, 1) := by decide +kernel
theorem dL_isAppealed_143 : decode cL_isAppealed 143 = .ok (.iload 9, 2) := by decide +kernel
theorem dL_isAppealed_145 : decode cL_isAppealed 145 = .ok (.iconst 1, 1) := by decide +kernel
theorem dL_isAppealed_146 : decode cL_isAppealed 146 = .ok (.iadd, 1) := by decide +kernel
theorem dL_isAppealed_147 : decode cL_isAppealed 147 = .ok (.i2l, 1) := by decide +kernel
theorem dL_isAppealed_148 : decode cL_isAppealed 148 = .ok (.iload 13, 2) := by decide +kernel
theorem dL_isAppealed_150 : decode cL_isAppealed 150 = .ok (.lshl, 1) := by decide +kernel
theorem dL_isAppealed_151 : decode cL_isAppealed 151 = .ok (.lor, 1) := by decide +kernel
theorem dL_isAppealed_152 : decode cL_isAppealed 152 = .ok (.lastore, 1) := by decide +kernel
theorem dL_isAppealed_153 : decode cL_isAppealed 153 = .ok (.aload_n 1, 1) := by decide +kernel
theorem dL_isAppealed_154 : decode cL_isAppealed 154 = .ok (.aload_n 2, 1) := by decide +kernel
theorem dL_isAppealed_155 : decode cL_isAppealed 155 = .ok (.iload 10, 2) := by decide +kernel
theorem dL_isAppealed_157 : decode cL_isAppealed 157 = .ok (.iload 11, 2) := by decide +kernel
theorem dL_isAppealed_159 : decode cL_isAppealed 159 = .ok (.invokestatic 19, 3) := by decide +kernel
theorem dL_isAppealed_162 : decode cL_isAppealed 162 = .ok (.istore 14, 2) := by decide +kernel
theorem dL_isAppealed_164 : decode cL_isAppealed 164 = .ok (.aload 4, 2) := by decide +kernel
theorem dL_isAppealed_166 : decode cL_isAppealed 166 = .ok (.iconst 2, 1) := by decide +kernel
theorem dL_isAppealed_167 : decode cL_isAppealed 167 = .ok (.iload 10, 2) := by decide +kernel
theorem dL_isAppealed_169 : decode cL_isAppealed 169 = .ok (.imul, 1) := by decide +kernel
theorem dL_isAppealed_170 : decode cL_isAppealed 170 = .ok (.iload 8, 2) := by decide +kernel
theorem dL_isAppealed_172 : decode cL_isAppealed 172 = .ok (.iadd, 1) := by decide +kernel
theorem dL_isAppealed_173 : decode cL_isAppealed 173 = .ok (.dup2, 1) := by decide +kernel
theorem dL_isAppealed_174 : decode cL_isAppealed 174 = .ok (.iaload, 1) := by decide +kernel
theorem dL_isAppealed_175 : decode cL_isAppealed 175 = .ok (.iload 14, 2) := by decide +kernel
theorem dL_isAppealed_177 : decode cL_isAppealed 177 = .ok (.iload 12, 2) := by decide +kernel
theorem dL_isAppealed_179 : decode cL_isAppealed 179 = .ok (.if_icmp .ne 7, 3) := by decide +kernel
theorem dL_isAppealed_182 : decode cL_isAppealed 182 = .ok (.iconst 1, 1) := by decide +kernel
theorem dL_isAppealed_183 : decode cL_isAppealed 183 = .ok (.goto 4, 3) := by decide +kernel
theorem dL_isAppealed_186 : decode cL_isAppealed 186 = .ok (.iconst 0, 1) := by decide +kernel
theorem dL_isAppealed_187 : decode cL_isAppealed 187 = .ok (.iadd, 1) := by decide +kernel
theorem dL_isAppealed_188 : decode cL_isAppealed 188 = .ok (.iastore, 1) := by decide +kernel
theorem dL_isAppealed_189 : decode cL_isAppealed 189 = .ok (.aload_n 1, 1) := by decide +kernel
theorem dL_isAppealed_190 : decode cL_isAppealed 190 = .ok (.aload_n 2, 1) := by decide +kernel
theorem dL_isAppealed_191 : decode cL_isAppealed 191 = .ok (.aload_n 3, 1) := by decide +kernel
theorem dL_isAppealed_192 : decode cL_isAppealed 192 = .ok (.aload 4, 2) := by decide +kernel
theorem dL_isAppealed_194 : decode cL_isAppealed 194 = .ok (.aload 5, 2) := by decide +kernel
theorem dL_isAppealed_196 : decode cL_isAppealed 196 = .ok (.aload 6, 2) := by decide +kernel
theorem dL_isAppealed_198 : decode cL_isAppealed 198 = .ok (.invokestatic 187, 3) := by decide +kernel
theorem dL_isAppealed_201 : decode cL_isAppealed 201 = .ok (.aload_n 0, 1) := by decide +kernel
theorem dL_isAppealed_202 : decode cL_isAppealed 202 = .ok (.iload 8, 2) := by decide +kernel
theorem dL_isAppealed_204 : decode cL_isAppealed 204 = .ok (.iload 9, 2) := by decide +kernel
theorem dL_isAppealed_206 : decode cL_isAppealed 206 = .ok (.invokestatic 191, 3) := by decide +kernel
theorem dL_isAppealed_209 : decode cL_isAppealed 209 = .ok (.iload 14, 2) := by decide +kernel
theorem dL_isAppealed_211 : decode cL_isAppealed 211 = .ok (.if_icmp .ne 7, 3) := by decide +kernel
theorem dL_isAppealed_214 : decode cL_isAppealed 214 = .ok (.iconst 1, 1) := by decide +kernel
theorem dL_isAppealed_215 : decode cL_isAppealed 215 = .ok (.goto 4, 3) := by decide +kernel
theorem dL_isAppealed_218 : decode cL_isAppealed 218 = .ok (.iconst 0, 1) := by decide +kernel
theorem dL_isAppealed_219 : decode cL_isAppealed 219 = .ok (.ireturn, 1) := by decide +kernel
theorem dL_acts_0 : decode cL_acts 0 = .ok (.iload 11, 2) := by decide +kernel
theorem dL_acts_2 : decode cL_acts 2 = .ok (.iconst 4, 1) := by decide +kernel
theorem dL_acts_3 : decode cL_acts 3 = .ok (.if_icmp .ge 17, 3) := by decide +kernel
theorem dL_acts_6 : decode cL_acts 6 = .ok (.aload_n 0, 1) := by decide +kernel
theorem dL_acts_7 : decode cL_acts 7 = .ok (.aload_n 1, 1) := by decide +kernel
theorem dL_acts_8 : decode cL_acts 8 = .ok (.aload_n 2, 1) := by decide +kernel
theorem dL_acts_9 : decode cL_acts 9 = .ok (.aload_n 3, 1) := by decide +kernel
theorem dL_acts_10 : decode cL_acts 10 = .ok (.aload 7, 2) := by decide +kernel
theorem dL_acts_12 : decode cL_acts 12 = .ok (.aload 8, 2) := by decide +kernel
theorem dL_acts_14 : decode cL_acts 14 = .ok (.iload 12, 2) := by decide +kernel
theorem dL_acts_16 : decode cL_acts 16 = .ok (.invokestatic 196, 3) := by decide +kernel
theorem dL_acts_19 : decode cL_acts 19 = .ok (.ireturn, 1) := by decide +kernel
theorem dL_acts_20 : decode cL_acts 20 = .ok (.iload 11, 2) := by decide +kernel
theorem dL_acts_22 : decode cL_acts 22 = .ok (.bipush 14, 2) := by decide +kernel
theorem dL_acts_24 : decode cL_acts 24 = .ok (.if_icmp .ge 81, 3) := by decide +kernel
theorem dL_acts_27 : decode cL_acts 27 = .ok (.aload_n 0, 1) := by decide +kernel
theorem dL_acts_28 : decode cL_acts 28 = .ok (.aload_n 1, 1) := by decide +kernel
theorem dL_acts_29 : decode cL_acts 29 = .ok (.aload_n 2, 1) := by decide +kernel
theorem dL_acts_30 : decode cL_acts 30 = .ok (.aload_n 3, 1) := by decide +kernel
theorem dL_acts_31 : decode cL_acts 31 = .ok (.aload 4, 2) := by decide +kernel
theorem dL_acts_33 : decode cL_acts 33 = .ok (.aload 5, 2) := by decide +kernel
theorem dL_acts_35 : decode cL_acts 35 = .ok (.aload 6, 2) := by decide +kernel
theorem dL_acts_37 : decode cL_acts 37 = .ok (.aload 7, 2) := by decide +kernel
theorem dL_acts_39 : decode cL_acts 39 = .ok (.aload 8, 2) := by decide +kernel
theorem dL_acts_41 : decode cL_acts 41 = .ok (.aload 9, 2) := by decide +kernel
theorem dL_acts_43 : decode cL_acts 43 = .ok (.iload 10, 2) := by decide +kernel
theorem dL_acts_45 : decode cL_acts 45 = .ok (.iload 12, 2) := by decide +kernel
theorem dL_acts_47 : decode cL_acts 47 = .ok (.invokestatic 200, 3) := by decide +kernel
theorem dL_acts_50 : decode cL_acts 50 = .ok (.ifCond .eq 53, 3) := by decide +kernel
theorem dL_acts_53 : decode cL_acts 53 = .ok (.aload 8, 2) := by decide +kernel
theorem dL_acts_55 : decode cL_acts 55 = .ok (.iconst 1, 1) := by decide +kernel
theorem dL_acts_56 : decode cL_acts 56 = .ok (.iaload, 1) := by decide +kernel
theorem dL_acts_57 : decode cL_acts 57 = .ok (.ifCond .lt 42, 3) := by decide +kernel
theorem dL_acts_60 : decode cL_acts 60 = .ok (.aload_n 1, 1) := by decide +kernel
theorem dL_acts_61 : decode cL_acts 61 = .ok (.aload_n 2, 1) := by decide +kernel
theorem dL_acts_62 : decode cL_acts 62 = .ok (.aload_n 3, 1) := by decide +kernel
theorem dL_acts_63 : decode cL_acts 63 = .ok (.aload 8, 2) := by decide +kernel
theorem dL_acts_65 : decode cL_acts 65 = .ok (.iconst 1, 1) := by decide +kernel
theorem dL_acts_66 : decode cL_acts 66 = .ok (.iaload, 1) := by decide +kernel
theorem dL_acts_67 : decode cL_acts 67 = .ok (.invokestatic 23, 3) := by decide +kernel
theorem dL_acts_70 : decode cL_acts 70 = .ok (.bipush 100, 2) := by decide +kernel
theorem dL_acts_72 : decode cL_acts 72 = .ok (.if_icmp .lt 27, 3) := by decide +kernel
theorem dL_acts_75 : decode cL_acts 75 = .ok (.aload_n 0, 1) := by decide +kernel
theorem dL_acts_76 : decode cL_acts 76 = .ok (.aload_n 1, 1) := by decide +kernel
theorem dL_acts_77 : decode cL_acts 77 = .ok (.aload_n 2, 1) := by decide +kernel
theorem dL_acts_78 : decode cL_acts 78 = .ok (.aload_n 3, 1) := by decide +kernel
theorem dL_acts_79 : decode cL_acts 79 = .ok (.aload 7, 2) := by decide +kernel
theorem dL_acts_81 : decode cL_acts 81 = .ok (.aload 8, 2) := by decide +kernel
theorem dL_acts_83 : decode cL_acts 83 = .ok (.iload 12, 2) := by decide +kernel
theorem dL_acts_85 : decode cL_acts 85 = .ok (.iconst 3, 1) := by decide +kernel
theorem dL_acts_86 : decode cL_acts 86 = .ok (.idiv, 1) := by decide +kernel
theorem dL_acts_87 : decode cL_acts 87 = .ok (.bipush 45, 2) := by decide +kernel
theorem dL_acts_89 : decode cL_acts 89 = .ok (.imul, 1) := by decide +kernel
theorem dL_acts_90 : decode cL_acts 90 = .ok (.bipush 9, 2) := by decide +kernel
theorem dL_acts_92 : decode cL_acts 92 = .ok (.iadd, 1) := by decide +kernel
theorem dL_acts_93 : decode cL_acts 93 = .ok (.invokestatic 196, 3) := by decide +kernel
theorem dL_acts_96 : decode cL_acts 96 = .ok (.ifCond .eq 7, 3) := by decide +kernel
theorem dL_acts_99 : decode cL_acts 99 = .ok (.iconst 1, 1) := by decide +kernel
theorem dL_acts_100 : decode cL_acts 100 = .ok (.goto 4, 3) := by decide +kernel
theorem dL_acts_103 : decode cL_acts 103 = .ok (.iconst 0, 1) := by decide +kernel
theorem dL_acts_104 : decode cL_acts 104 = .ok (.ireturn, 1) := by decide +kernel
theorem dL_acts_105 : decode cL_acts 105 = .ok (.iload 11, 2) := by decide +kernel
theorem dL_acts_107 : decode cL_acts 107 = .ok (.bipush 16, 2) := by decide +kernel
theorem dL_acts_109 : decode cL_acts 109 = .ok (.if_icmp .ge 19, 3) := by decide +kernel
theorem dL_acts_112 : decode cL_acts 112 = .ok (.aload_n 0, 1) := by decide +kernel
theorem dL_acts_113 : decode cL_acts 113 = .ok (.aload_n 1, 1) := by decide +kernel
theorem dL_acts_114 : decode cL_acts 114 = .ok (.aload_n 2, 1) := by decide +kernel
theorem dL_acts_115 : decode cL_acts 115 = .ok (.aload_n 3, 1) := by decide +kernel
theorem dL_acts_116 : decode cL_acts 116 = .ok (.aload 4, 2) := by decide +kernel
theorem dL_acts_118 : decode cL_acts 118 = .ok (.aload 7, 2) := by decide +kernel
theorem dL_acts_120 : decode cL_acts 120 = .ok (.aload 8, 2) := by decide +kernel
theorem dL_acts_122 : decode cL_acts 122 = .ok (.iload 12, 2) := by decide +kernel
theorem dL_acts_124 : decode cL_acts 124 = .ok (.invokestatic 204, 3) := by decide +kernel
theorem dL_acts_127 : decode cL_acts 127 = .ok (.ireturn, 1) := by decide +kernel
theorem dL_acts_128 : decode cL_acts 128 = .ok (.iload 11, 2) := by decide +kernel
theorem dL_acts_130 : decode cL_acts 130 = .ok (.bipush 16, 2) := by decide +kernel
theorem dL_acts_132 : decode cL_acts 132 = .ok (.if_icmp .ne 224, 3) := by decide +kernel
theorem dL_acts_135 : decode cL_acts 135 = .ok (.aload 8, 2) := by decide +kernel
theorem dL_acts_137 : decode cL_acts 137 = .ok (.iconst 0, 1) := by decide +kernel
theorem dL_acts_138 : decode cL_acts 138 = .ok (.iaload, 1) := by decide +kernel
theorem dL_acts_139 : decode cL_acts 139 = .ok (.ifCond .le 217, 3) := by decide +kernel
theorem dL_acts_142 : decode cL_acts 142 = .ok (.iload 12, 2) := by decide +kernel
theorem dL_acts_144 : decode cL_acts 144 = .ok (.aload 8, 2) := by decide +kernel
theorem dL_acts_146 : decode cL_acts 146 = .ok (.iconst 0, 1) := by decide +kernel
theorem dL_acts_147 : decode cL_acts 147 = .ok (.iaload, 1) := by decide +kernel
theorem dL_acts_148 : decode cL_acts 148 = .ok (.irem, 1) := by decide +kernel
theorem dL_acts_149 : decode cL_acts 149 = .ok (.istore 13, 2) := by decide +kernel
theorem dL_acts_151 : decode cL_acts 151 = .ok (.iload 12, 2) := by decide +kernel
theorem dL_acts_153 : decode cL_acts 153 = .ok (.bipush 16, 2) := by decide +kernel
theorem dL_acts_155 : decode cL_acts 155 = .ok (.idiv, 1) := by decide +kernel
theorem dL_acts_156 : decode cL_acts 156 = .ok (.iconst 4, 1) := by decide +kernel
theorem dL_acts_157 : decode cL_acts 157 = .ok (.irem, 1) := by decide +kernel
theorem dL_acts_158 : decode cL_acts 158 = .ok (.ifCond .ne 21, 3) := by decide +kernel
theorem dL_acts_161 : decode cL_acts 161 = .ok (.sipush 499, 3) := by decide +kernel
theorem dL_acts_164 : decode cL_acts 164 = .ok (.iload 12, 2) := by decide +kernel
theorem dL_acts_166 : decode cL_acts 166 = .ok (.bipush 64, 2) := by decide +kernel
theorem dL_acts_168 : decode cL_acts 168 = .ok (.idiv, 1) := by decide +kernel
theorem dL_acts_169 : decode cL_acts 169 = .ok (.iconst 2, 1) := by decide +kernel
theorem dL_acts_170 : decode cL_acts 170 = .ok (.irem, 1) := by decide +kernel
theorem dL_acts_171 : decode cL_acts 171 = .ok (.sipush 272, 3) := by decide +kernel
theorem dL_acts_174 : decode cL_acts 174 = .ok (.imul, 1) := by decide +kernel
theorem dL_acts_175 : decode cL_acts 175 = .ok (.iadd, 1) := by decide +kernel
theorem dL_acts_176 : decode cL_acts 176 = .ok (.goto 16, 3) := by decide +kernel
theorem dL_acts_179 : decode cL_acts 179 = .ok (.sipush 500, 3) := by decide +kernel
theorem dL_acts_182 : decode cL_acts 182 = .ok (.iload 12, 2) := by decide +kernel
theorem dL_acts_184 : decode cL_acts 184 = .ok (.bipush 64, 2) := by decide +kernel
theorem dL_acts_186 : decode cL_acts 186 = .ok (.idiv, 1) := by decide +kernel
theorem dL_acts_187 : decode cL_acts 187 = .ok (.sipush 271, 3) := by decide +kernel
theorem dL_acts_190 : decode cL_acts 190 = .ok (.irem, 1) := by decide +kernel
theorem dL_acts_191 : decode cL_acts 191 = .ok (.iadd, 1) := by decide +kernel
theorem dL_acts_192 : decode cL_acts 192 = .ok (.istore 14, 2) := by decide +kernel
theorem dL_acts_194 : decode cL_acts 194 = .ok (.iload 12, 2) := by decide +kernel
theorem dL_acts_196 : decode cL_acts 196 = .ok (.sipush 200, 3) := by decide +kernel
theorem dL_acts_199 : decode cL_acts 199 = .ok (.idiv, 1) := by decide +kernel
theorem dL_acts_200 : decode cL_acts 200 = .ok (.iconst 3, 1) := by decide +kernel
theorem dL_acts_201 : decode cL_acts 201 = .ok (.irem, 1) := by decide +kernel
theorem dL_acts_202 : decode cL_acts 202 = .ok (.ifCond .ne 8, 3) := by decide +kernel
theorem dL_acts_205 : decode cL_acts 205 = .ok (.bipush 16, 2) := by decide +kernel
theorem dL_acts_207 : decode cL_acts 207 = .ok (.goto 12, 3) := by decide +kernel
theorem dL_acts_210 : decode cL_acts 210 = .ok (.iload 12, 2) := by decide +kernel
theorem dL_acts_212 : decode cL_acts 212 = .ok (.sipush 600, 3) := by decide +kernel
theorem dL_acts_215 : decode cL_acts 215 = .ok (.idiv, 1) := by decide +kernel
theorem dL_acts_216 : decode cL_acts 216 = .ok (.bipush 16, 2) := by decide +kernel
theorem dL_acts_218 : decode cL_acts 218 = .ok (.irem, 1) := by decide +kernel
theorem dL_acts_219 : decode cL_acts 219 = .ok (.istore 15, 2) := by decide +kernel
theorem dL_acts_221 : decode cL_acts 221 = .ok (.iload 14, 2) := by decide +kernel
theorem dL_acts_223 : decode cL_acts 223 = .ok (.sipush 500, 3) := by decide +kernel
theorem dL_acts_226 : decode cL_acts 226 = .ok (.if_icmp .lt 22, 3) := by decide +kernel
theorem dL_acts_229 : decode cL_acts 229 = .ok (.iload 14, 2) := by decide +kernel
theorem dL_acts_231 : decode cL_acts 231 = .ok (.sipush 770, 3) := by decide +kernel
theorem dL_acts_234 : decode cL_acts 234 = .ok (.if_icmp .gt 14, 3) := by decide +kernel
theorem dL_acts_237 : decode cL_acts 237 = .ok (.iload 15, 2) := by decide +kernel
theorem dL_acts_239 : decode cL_acts 239 = .ok (.bipush 16, 2) := by decide +kernel
theorem dL_acts_241 : decode cL_acts 241 = .ok (.if_icmp .ge 7, 3) := by decide +kernel
theorem dL_acts_244 : decode cL_acts 244 = .ok (.iconst 1, 1) := by decide +kernel
theorem dL_acts_245 : decode cL_acts 245 = .ok (.goto 4, 3) := by decide +kernel
theorem dL_acts_248 : decode cL_acts 248 = .ok (.iconst 0, 1) := by decide +kernel
theorem dL_acts_249 : decode cL_acts 249 = .ok (.istore 16, 2) := by decide +kernel
theorem dL_acts_251 : decode cL_acts 251 = .ok (.aload_n 1, 1) := by decide +kernel
theorem dL_acts_252 : decode cL_acts 252 = .ok (.iconst 2, 1) := by decide +kernel
theorem dL_acts_253 : decode cL_acts 253 = .ok (.iload 13, 2) := by decide +kernel
theorem dL_acts_255 : decode cL_acts 255 = .ok (.imul, 1) := by decide +kernel
theorem dL_acts_256 : decode cL_acts 256 = .ok (.iconst 1, 1) := by decide +kernel
theorem dL_acts_257 : decode cL_acts 257 = .ok (.iadd, 1) := by decide +kernel
theorem dL_acts_258 : decode cL_acts 258 = .ok (.iaload, 1) := by decide +kernel
theorem dL_acts_259 : decode cL_acts 259 = .ok (.iconst 2, 1) := by decide +kernel
theorem dL_acts_260 : decode cL_acts 260 = .ok (.if_icmp .ge 7, 3) := by decide +kernel
theorem dL_acts_263 : decode cL_acts 263 = .ok (.iconst 1, 1) := by decide +kernel
theorem dL_acts_264 : decode cL_acts 264 = .ok (.goto 4, 3) := by decide +kernel
theorem dL_acts_267 : decode cL_acts 267 = .ok (.iconst 0, 1) := by decide +kernel
theorem dL_acts_268 : decode cL_acts 268 = .ok (.istore 17, 2) := by decide +kernel
theorem dL_acts_270 : decode cL_acts 270 = .ok (.iload 17, 2) := by decide +kernel
theorem dL_acts_272 : decode cL_acts 272 = .ok (.ifCond .eq 45, 3) := by decide +kernel
theorem dL_acts_275 : decode cL_acts 275 = .ok (.aload_n 1, 1) := by decide +kernel
theorem dL_acts_276 : decode cL_acts 276 = .ok (.iconst 2, 1) := by decide +kernel
theorem dL_acts_277 : decode cL_acts 277 = .ok (.iload 13, 2) := by decide +kernel
theorem dL_acts_279 : decode cL_acts 279 = .ok (.imul, 1) := by decide +kernel
theorem dL_acts_280 : decode cL_acts 280 = .ok (.iconst 1, 1) := by decide +kernel
theorem dL_acts_281 : decode cL_acts 281 = .ok (.iadd, 1) := by decide +kernel
theorem dL_acts_282 : decode cL_acts 282 = .ok (.iload 16, 2) := by decide +kernel
theorem dL_acts_284 : decode cL_acts 284 = .ok (.ifCond .eq 7, 3) := by decide +kernel
theorem dL_acts_287 : decode cL_acts 287 = .ok (.iconst 1, 1) := by decide +kernel
theorem dL_acts_288 : decode cL_acts 288 = .ok (.goto 16, 3) := by decide +kernel
theorem dL_acts_291 : decode cL_acts 291 = .ok (.aload 8, 2) := by decide +kernel
theorem dL_acts_293 : decode cL_acts 293 = .ok (.bipush 7, 2) := by decide +kernel
theorem dL_acts_295 : decode cL_acts 295 = .ok (.iaload, 1) := by decide +kernel
theorem dL_acts_296 : decode cL_acts 296 = .ok (.ifCond .ne 7, 3) := by decide +kernel
theorem dL_acts_299 : decode cL_acts 299 = .ok (.iconst 3, 1) := by decide +kernel
theorem dL_acts_300 : decode cL_acts 300 = .ok (.goto 4, 3) := by decide +kernel
theorem dL_acts_303 : decode cL_acts 303 = .ok (.iconst 2, 1) := by decide +kernel
theorem dL_acts_304 : decode cL_acts 304 = .ok (.iastore, 1) := by decide +kernel
theorem dL_acts_305 : decode cL_acts 305 = .ok (.aload_n 1, 1) := by decide +kernel
theorem dL_acts_306 : decode cL_acts 306 = .ok (.aload_n 2, 1) := by decide +kernel
theorem dL_acts_307 : decode cL_acts 307 = .ok (.aload_n 3, 1) := by decide +kernel
theorem dL_acts_308 : decode cL_acts 308 = .ok (.aload 4, 2) := by decide +kernel
theorem dL_acts_310 : decode cL_acts 310 = .ok (.aload 7, 2) := by decide +kernel
theorem dL_acts_312 : decode cL_acts 312 = .ok (.aload 8, 2) := by decide +kernel
theorem dL_acts_314 : decode cL_acts 314 = .ok (.invokestatic 187, 3) := by decide +kernel
theorem dL_acts_317 : decode cL_acts 317 = .ok (.aload_n 0, 1) := by decide +kernel
theorem dL_acts_318 : decode cL_acts 318 = .ok (.iload 13, 2) := by decide +kernel
theorem dL_acts_320 : decode cL_acts 320 = .ok (.iload 14, 2) := by decide +kernel
theorem dL_acts_322 : decode cL_acts 322 = .ok (.iload 15, 2) := by decide +kernel
theorem dL_acts_324 : decode cL_acts 324 = .ok (.invokestatic 166, 3) := by decide +kernel
theorem dL_acts_327 : decode cL_acts 327 = .ok (.iload 17, 2) := by decide +kernel
theorem dL_acts_329 : decode cL_acts 329 = .ok (.ifCond .ne 8, 3) := by decide +kernel
theorem dL_acts_332 : decode cL_acts 332 = .ok (.bipush (-7), 2) := by decide +kernel
theorem dL_acts_334 : decode cL_acts 334 = .ok (.goto 13, 3) := by decide +kernel
theorem dL_acts_337 : decode cL_acts 337 = .ok (.iload 16, 2) := by decide +kernel
theorem dL_acts_339 : decode cL_acts 339 = .ok (.ifCond .eq 7, 3) := by decide +kernel
theorem dL_acts_342 : decode cL_acts 342 = .ok (.iconst 1, 1) := by decide +kernel
theorem dL_acts_343 : decode cL_acts 343 = .ok (.goto 4, 3) := by decide +kernel
theorem dL_acts_346 : decode cL_acts 346 = .ok (.iconst 0, 1) := by decide +kernel
theorem dL_acts_347 : decode cL_acts 347 = .ok (.if_icmp .ne 7, 3) := by decide +kernel
theorem dL_acts_350 : decode cL_acts 350 = .ok (.iconst 1, 1) := by decide +kernel
theorem dL_acts_351 : decode cL_acts 351 = .ok (.goto 4, 3) := by decide +kernel
theorem dL_acts_354 : decode cL_acts 354 = .ok (.iconst 0, 1) := by decide +kernel
theorem dL_acts_355 : decode cL_acts 355 = .ok (.ireturn, 1) := by decide +kernel
theorem dL_acts_356 : decode cL_acts 356 = .ok (.iload 11, 2) := by decide +kernel
theorem dL_acts_358 : decode cL_acts 358 = .ok (.bipush 17, 2) := by decide +kernel
theorem dL_acts_360 : decode cL_acts 360 = .ok (.if_icmp .ne 130, 3) := by decide +kernel
theorem dL_acts_363 : decode cL_acts 363 = .ok (.aload 8, 2) := by decide +kernel
theorem dL_acts_365 : decode cL_acts 365 = .ok (.iconst 0, 1) := by decide +kernel
theorem dL_acts_366 : decode cL_acts 366 = .ok (.iaload, 1) := by decide +kernel
theorem dL_acts_367 : decode cL_acts 367 = .ok (.ifCond .le 123, 3) := by decide +kernel
theorem dL_acts_370 : decode cL_acts 370 = .ok (.iload 12, 2) := by decide +kernel
theorem dL_acts_372 : decode cL_acts 372 = .ok (.iconst 2, 1) := by decide +kernel
theorem dL_acts_373 : decode cL_acts 373 = .ok (.irem, 1) := by decide +kernel
theorem dL_acts_374 : decode cL_acts 374 = .ok (.istore 13, 2) := by decide +kernel
theorem dL_acts_376 : decode cL_acts 376 = .ok (.iload 12, 2) := by decide +kernel
theorem dL_acts_378 : decode cL_acts 378 = .ok (.iconst 2, 1) := by decide +kernel
theorem dL_acts_379 : decode cL_acts 379 = .ok (.idiv, 1) := by decide +kernel
theorem dL_acts_380 : decode cL_acts 380 = .ok (.aload 8, 2) := by decide +kernel
theorem dL_acts_382 : decode cL_acts 382 = .ok (.iconst 0, 1) := by decide +kernel
theorem dL_acts_383 : decode cL_acts 383 = .ok (.iaload, 1) := by decide +kernel
theorem dL_acts_384 : decode cL_acts 384 = .ok (.irem, 1) := by decide +kernel
theorem dL_acts_385 : decode cL_acts 385 = .ok (.istore 14, 2) := by decide +kernel
theorem dL_acts_387 : decode cL_acts 387 = .ok (.aload 8, 2) := by decide +kernel
theorem dL_acts_389 : decode cL_acts 389 = .ok (.iconst 1, 1) := by decide +kernel
theorem dL_acts_390 : decode cL_acts 390 = .ok (.iaload, 1) := by decide +kernel
theorem dL_acts_391 : decode cL_acts 391 = .ok (.ifCond .lt 39, 3) := by decide +kernel
theorem dL_acts_394 : decode cL_acts 394 = .ok (.aload_n 1, 1) := by decide +kernel
theorem dL_acts_395 : decode cL_acts 395 = .ok (.iconst 2, 1) := by decide +kernel
theorem dL_acts_396 : decode cL_acts 396 = .ok (.iload 14, 2) := by decide +kernel
theorem dL_acts_398 : decode cL_acts 398 = .ok (.imul, 1) := by decide +kernel
theorem dL_acts_399 : decode cL_acts 399 = .ok (.iconst 1, 1) := by decide +kernel
theorem dL_acts_400 : decode cL_acts 400 = .ok (.iadd, 1) := by decide +kernel
theorem dL_acts_401 : decode cL_acts 401 = .ok (.iaload, 1) := by decide +kernel
theorem dL_acts_402 : decode cL_acts 402 = .ok (.iconst 1, 1) := by decide +kernel
theorem dL_acts_403 : decode cL_acts 403 = .ok (.if_icmp .ne 27, 3) := by decide +kernel
theorem dL_acts_406 : decode cL_acts 406 = .ok (.aload_n 1, 1) := by decide +kernel
theorem dL_acts_407 : decode cL_acts 407 = .ok (.iconst 2, 1) := by decide +kernel
theorem dL_acts_408 : decode cL_acts 408 = .ok (.iload 14, 2) := by decide +kernel
theorem dL_acts_410 : decode cL_acts 410 = .ok (.imul, 1) := by decide +kernel
theorem dL_acts_411 : decode cL_acts 411 = .ok (.iaload, 1) := by decide +kernel
theorem dL_acts_412 : decode cL_acts 412 = .ok (.aload 7, 2) := by decide +kernel
theorem dL_acts_414 : decode cL_acts 414 = .ok (.aload 8, 2) := by decide +kernel
theorem dL_acts_416 : decode cL_acts 416 = .ok (.iconst 1, 1) := by decide +kernel
theorem dL_acts_417 : decode cL_acts 417 = .ok (.iaload, 1) := by decide +kernel
theorem dL_acts_418 : decode cL_acts 418 = .ok (.iload 13, 2) := by decide +kernel
theorem dL_acts_420 : decode cL_acts 420 = .ok (.invokestatic 27, 3) := by decide +kernel
theorem dL_acts_423 : decode cL_acts 423 = .ok (.if_icmp .ne 7, 3) := by decide +kernel
theorem dL_acts_426 : decode cL_acts 426 = .ok (.iconst 1, 1) := by decide +kernel
theorem dL_acts_427 : decode cL_acts 427 = .ok (.goto 4, 3) := by decide +kernel
theorem dL_acts_430 : decode cL_acts 430 = .ok (.iconst 0, 1) := by decide +kernel
theorem dL_acts_431 : decode cL_acts 431 = .ok (.istore 15, 2) := by decide +kernel
theorem dL_acts_433 : decode cL_acts 433 = .ok (.aload 8, 2) := by decide +kernel
theorem dL_acts_435 : decode cL_acts 435 = .ok (.iconst 2, 1) := by decide +kernel
theorem dL_acts_436 : decode cL_acts 436 = .ok (.iload 13, 2) := by decide +kernel
theorem dL_acts_438 : decode cL_acts 438 = .ok (.iadd, 1) := by decide +kernel
theorem dL_acts_439 : decode cL_acts 439 = .ok (.iaload, 1) := by decide +kernel
theorem dL_acts_440 : decode cL_acts 440 = .ok (.istore 16, 2) := by decide +kernel
theorem dL_acts_442 : decode cL_acts 442 = .ok (.aload 8, 2) := by decide +kernel
theorem dL_acts_444 : decode cL_acts 444 = .ok (.iconst 2, 1) := by decide +kernel
theorem dL_acts_445 : decode cL_acts 445 = .ok (.iload 13, 2) := by decide +kernel
theorem dL_acts_447 : decode cL_acts 447 = .ok (.iadd, 1) := by decide +kernel
theorem dL_acts_448 : decode cL_acts 448 = .ok (.iload 15, 2) := by decide +kernel
theorem dL_acts_450 : decode cL_acts 450 = .ok (.ifCond .eq 8, 3) := by decide +kernel
theorem dL_acts_453 : decode cL_acts 453 = .ok (.iload 14, 2) := by decide +kernel
theorem dL_acts_455 : decode cL_acts 455 = .ok (.goto 5, 3) := by decide +kernel
theorem dL_acts_458 : decode cL_acts 458 = .ok (.iload 16, 2) := by decide +kernel
theorem dL_acts_460 : decode cL_acts 460 = .ok (.iastore, 1) := by decide +kernel
theorem dL_acts_461 : decode cL_acts 461 = .ok (.aload_n 0, 1) := by decide +kernel
theorem dL_acts_462 : decode cL_acts 462 = .ok (.iload 13, 2) := by decide +kernel
theorem dL_acts_464 : decode cL_acts 464 = .ok (.iload 14, 2) := by decide +kernel
theorem dL_acts_466 : decode cL_acts 466 = .ok (.invokestatic 208, 3) := by decide +kernel
theorem dL_acts_469 : decode cL_acts 469 = .ok (.iload 15, 2) := by decide +kernel
theorem dL_acts_471 : decode cL_acts 471 = .ok (.ifCond .eq 8, 3) := by decide +kernel
theorem dL_acts_474 : decode cL_acts 474 = .ok (.iload 16, 2) := by decide +kernel
theorem dL_acts_476 : decode cL_acts 476 = .ok (.goto 5, 3) := by decide +kernel
theorem dL_acts_479 : decode cL_acts 479 = .ok (.bipush (-7), 2) := by decide +kernel
theorem dL_acts_481 : decode cL_acts 481 = .ok (.if_icmp .ne 7, 3) := by decide +kernel
theorem dL_acts_484 : decode cL_acts 484 = .ok (.iconst 1, 1) := by decide +kernel
theorem dL_acts_485 : decode cL_acts 485 = .ok (.goto 4, 3) := by decide +kernel
theorem dL_acts_488 : decode cL_acts 488 = .ok (.iconst 0, 1) := by decide +kernel
theorem dL_acts_489 : decode cL_acts 489 = .ok (.ireturn, 1) := by decide +kernel
theorem dL_acts_490 : decode cL_acts 490 = .ok (.aload 8, 2) := by decide +kernel
theorem dL_acts_492 : decode cL_acts 492 = .ok (.bipush 7, 2) := by decide +kernel
theorem dL_acts_494 : decode cL_acts 494 = .ok (.iaload, 1) := by decide +kernel
theorem dL_acts_495 : decode cL_acts 495 = .ok (.ifCond .ne 7, 3) := by decide +kernel
theorem dL_acts_498 : decode cL_acts 498 = .ok (.iconst 1, 1) := by decide +kernel
theorem dL_acts_499 : decode cL_acts 499 = .ok (.goto 4, 3) := by decide +kernel
theorem dL_acts_502 : decode cL_acts 502 = .ok (.iconst 0, 1) := by decide +kernel
theorem dL_acts_503 : decode cL_acts 503 = .ok (.istore 13, 2) := by decide +kernel
theorem dL_acts_505 : decode cL_acts 505 = .ok (.iconst 0, 1) := by decide +kernel
theorem dL_acts_506 : decode cL_acts 506 = .ok (.istore 14, 2) := by decide +kernel
theorem dL_acts_508 : decode cL_acts 508 = .ok (.iload 14, 2) := by decide +kernel
theorem dL_acts_510 : decode cL_acts 510 = .ok (.bipush 6, 2) := by decide +kernel
theorem dL_acts_512 : decode cL_acts 512 = .ok (.if_icmp .ge 34, 3) := by decide +kernel
theorem dL_acts_515 : decode cL_acts 515 = .ok (.iload 13, 2) := by decide +kernel
theorem dL_acts_517 : decode cL_acts 517 = .ok (.ifCond .eq 20, 3) := by decide +kernel
theorem dL_acts_520 : decode cL_acts 520 = .ok (.aload_n 1, 1) := by decide +kernel
theorem dL_acts_521 : decode cL_acts 521 = .ok (.aload_n 2, 1) := by decide +kernel
theorem dL_acts_522 : decode cL_acts 522 = .ok (.aload_n 3, 1) := by decide +kernel
theorem dL_acts_523 : decode cL_acts 523 = .ok (.iload 14, 2) := by decide +kernel
theorem dL_acts_525 : decode cL_acts 525 = .ok (.invokestatic 23, 3) := by decide +kernel
theorem dL_acts_528 : decode cL_acts 528 = .ok (.bipush 100, 2) := by decide +kernel
theorem dL_acts_530 : decode cL_acts 530 = .ok (.if_icmp .lt 7, 3) := by decide +kernel
theorem dL_acts_533 : decode cL_acts 533 = .ok (.iconst 1, 1) := by decide +kernel
theorem dL_acts_534 : decode cL_acts 534 = .ok (.goto 4, 3) := by decide +kernel
theorem dL_acts_537 : decode cL_acts 537 = .ok (.iconst 0, 1) := by decide +kernel
theorem dL_acts_538 : decode cL_acts 538 = .ok (.istore 13, 2) := by decide +kernel
theorem dL_acts_540 : decode cL_acts 540 = .ok (.iinc 14 1, 3) := by decide +kernel
theorem dL_acts_543 : decode cL_acts 543 = .ok (.goto (-35), 3) := by decide +kernel
theorem dL_acts_546 : decode cL_acts 546 = .ok (.iload 13, 2) := by decide +kernel
theorem dL_acts_548 : decode cL_acts 548 = .ok (.ifCond .eq 72, 3) := by decide +kernel
theorem dL_acts_551 : decode cL_acts 551 = .ok (.aload_n 1, 1) := by decide +kernel
theorem dL_acts_552 : decode cL_acts 552 = .ok (.aload_n 2, 1) := by decide +kernel
theorem dL_acts_553 : decode cL_acts 553 = .ok (.aload_n 3, 1) := by decide +kernel
theorem dL_acts_554 : decode cL_acts 554 = .ok (.aload 7, 2) := by decide +kernel
theorem dL_acts_556 : decode cL_acts 556 = .ok (.iconst 3, 1) := by decide +kernel
theorem dL_acts_557 : decode cL_acts 557 = .ok (.invokestatic 104, 3) := by decide +kernel
theorem dL_acts_560 : decode cL_acts 560 = .ok (.istore 14, 2) := by decide +kernel
theorem dL_acts_562 : decode cL_acts 562 = .ok (.aload 7, 2) := by decide +kernel
theorem dL_acts_564 : decode cL_acts 564 = .ok (.iconst 4, 1) := by decide +kernel
theorem dL_acts_565 : decode cL_acts 565 = .ok (.aload_n 1, 1) := by decide +kernel
theorem dL_acts_566 : decode cL_acts 566 = .ok (.aload_n 2, 1) := by decide +kernel
theorem dL_acts_567 : decode cL_acts 567 = .ok (.aload_n 3, 1) := by decide +kernel
theorem dL_acts_568 : decode cL_acts 568 = .ok (.aload 7, 2) := by decide +kernel
theorem dL_acts_570 : decode cL_acts 570 = .ok (.iconst 0, 1) := by decide +kernel
theorem dL_acts_571 : decode cL_acts 571 = .ok (.invokestatic 104, 3) := by decide +kernel
theorem dL_acts_574 : decode cL_acts 574 = .ok (.iastore, 1) := by decide +kernel
theorem dL_acts_575 : decode cL_acts 575 = .ok (.aload 7, 2) := by decide +kernel
theorem dL_acts_577 : decode cL_acts 577 = .ok (.bipush 6, 2) := by decide +kernel
theorem dL_acts_579 : decode cL_acts 579 = .ok (.aload_n 1, 1) := by decide +kernel
theorem dL_acts_580 : decode cL_acts 580 = .ok (.aload_n 2, 1) := by decide +kernel
theorem dL_acts_581 : decode cL_acts 581 = .ok (.aload_n 3, 1) := by decide +kernel
theorem dL_acts_582 : decode cL_acts 582 = .ok (.aload 7, 2) := by decide +kernel
theorem dL_acts_584 : decode cL_acts 584 = .ok (.iconst 1, 1) := by decide +kernel
theorem dL_acts_585 : decode cL_acts 585 = .ok (.invokestatic 104, 3) := by decide +kernel
theorem dL_acts_588 : decode cL_acts 588 = .ok (.iastore, 1) := by decide +kernel
theorem dL_acts_589 : decode cL_acts 589 = .ok (.aload 7, 2) := by decide +kernel
theorem dL_acts_591 : decode cL_acts 591 = .ok (.bipush 7, 2) := by decide +kernel
theorem dL_acts_593 : decode cL_acts 593 = .ok (.aload_n 1, 1) := by decide +kernel
theorem dL_acts_594 : decode cL_acts 594 = .ok (.aload_n 2, 1) := by decide +kernel
theorem dL_acts_595 : decode cL_acts 595 = .ok (.aload_n 3, 1) := by decide +kernel
theorem dL_acts_596 : decode cL_acts 596 = .ok (.aload 7, 2) := by decide +kernel
theorem dL_acts_598 : decode cL_acts 598 = .ok (.iconst 2, 1) := by decide +kernel
theorem dL_acts_599 : decode cL_acts 599 = .ok (.invokestatic 104, 3) := by decide +kernel
theorem dL_acts_602 : decode cL_acts 602 = .ok (.iastore, 1) := by decide +kernel
theorem dL_acts_603 : decode cL_acts 603 = .ok (.aload 7, 2) := by decide +kernel
theorem dL_acts_605 : decode cL_acts 605 = .ok (.iconst 5, 1) := by decide +kernel
theorem dL_acts_606 : decode cL_acts 606 = .ok (.iload 14, 2) := by decide +kernel
theorem dL_acts_608 : decode cL_acts 608 = .ok (.iastore, 1) := by decide +kernel
theorem dL_acts_609 : decode cL_acts 609 = .ok (.aload 8, 2) := by decide +kernel
theorem dL_acts_611 : decode cL_acts 611 = .ok (.bipush 7, 2) := by decide +kernel
theorem dL_acts_613 : decode cL_acts 613 = .ok (.iconst 4, 1) := by decide +kernel
theorem dL_acts_614 : decode cL_acts 614 = .ok (.iastore, 1) := by decide +kernel
theorem dL_acts_615 : decode cL_acts 615 = .ok (.aload 8, 2) := by decide +kernel
theorem dL_acts_617 : decode cL_acts 617 = .ok (.iconst 1, 1) := by decide +kernel
theorem dL_acts_618 : decode cL_acts 618 = .ok (.iconst (-1), 1) := by decide +kernel
theorem dL_acts_619 : decode cL_acts 619 = .ok (.iastore, 1) := by decide +kernel
theorem dL_acts_620 : decode cL_acts 620 = .ok (.aload_n 0, 1) := by decide +kernel
theorem dL_acts_621 : decode cL_acts 621 = .ok (.invokestatic 211, 3) := by decide +kernel
theorem dL_acts_624 : decode cL_acts 624 = .ok (.iload 13, 2) := by decide +kernel
theorem dL_acts_626 : decode cL_acts 626 = .ok (.ifCond .eq 7, 3) := by decide +kernel
theorem dL_acts_629 : decode cL_acts 629 = .ok (.iconst 4, 1) := by decide +kernel
theorem dL_acts_630 : decode cL_acts 630 = .ok (.goto 5, 3) := by decide +kernel
theorem dL_acts_633 : decode cL_acts 633 = .ok (.bipush (-7), 2) := by decide +kernel
theorem dL_acts_635 : decode cL_acts 635 = .ok (.if_icmp .ne 7, 3) := by decide +kernel
theorem dL_acts_638 : decode cL_acts 638 = .ok (.iconst 1, 1) := by decide +kernel
theorem dL_acts_639 : decode cL_acts 639 = .ok (.goto 4, 3) := by decide +kernel
theorem dL_acts_642 : decode cL_acts 642 = .ok (.iconst 0, 1) := by decide +kernel
theorem dL_acts_643 : decode cL_acts 643 = .ok (.ireturn, 1) := by decide +kernel
theorem dL_holds_0 : decode cL_holds 0 = .ok (.aload_n 0, 1) := by decide +kernel
theorem dL_holds_1 : decode cL_holds 1 = .ok (.arraylength, 1) := by decide +kernel
theorem dL_holds_2 : decode cL_holds 2 = .ok (.ifCond .ne 7, 3) := by decide +kernel
theorem dL_holds_5 : decode cL_holds 5 = .ok (.iconst 1, 1) := by decide +kernel
theorem dL_holds_6 : decode cL_holds 6 = .ok (.goto 8, 3) := by decide +kernel
theorem dL_holds_9 : decode cL_holds 9 = .ok (.aload_n 0, 1) := by decide +kernel
theorem dL_holds_10 : decode cL_holds 10 = .ok (.iconst 0, 1) := by decide +kernel
theorem dL_holds_11 : decode cL_holds 11 = .ok (.iaload, 1) := by decide +kernel
theorem dL_holds_12 : decode cL_holds 12 = .ok (.iconst 1, 1) := by decide +kernel
theorem dL_holds_13 : decode cL_holds 13 = .ok (.iand, 1) := by decide +kernel
theorem dL_holds_14 : decode cL_holds 14 = .ok (.istore_n 1, 1) := by decide +kernel
theorem dL_holds_15 : decode cL_holds 15 = .ok (.new 44, 3) := by decide +kernel
theorem dL_holds_18 : decode cL_holds 18 = .ok (.dup, 1) := by decide +kernel
theorem dL_holds_19 : decode cL_holds 19 = .ok (.iload_n 1, 1) := by decide +kernel
theorem dL_holds_20 : decode cL_holds 20 = .ok (.ifCond .ne 7, 3) := by decide +kernel
theorem dL_holds_23 : decode cL_holds 23 = .ok (.iconst 0, 1) := by decide +kernel
theorem dL_holds_24 : decode cL_holds 24 = .ok (.goto 15, 3) := by decide +kernel
theorem dL_holds_27 : decode cL_holds 27 = .ok (.aload_n 0, 1) := by decide +kernel
theorem dL_holds_28 : decode cL_holds 28 = .ok (.arraylength, 1) := by decide +kernel
theorem dL_holds_29 : decode cL_holds 29 = .ok (.ifCond .ne 7, 3) := by decide +kernel
theorem dL_holds_32 : decode cL_holds 32 = .ok (.iconst 1, 1) := by decide +kernel
theorem dL_holds_33 : decode cL_holds 33 = .ok (.goto 6, 3) := by decide +kernel
theorem dL_holds_36 : decode cL_holds 36 = .ok (.aload_n 0, 1) := by decide +kernel
theorem dL_holds_37 : decode cL_holds 37 = .ok (.iconst 0, 1) := by decide +kernel
theorem dL_holds_38 : decode cL_holds 38 = .ok (.iaload, 1) := by decide +kernel
theorem dL_holds_39 : decode cL_holds 39 = .ok (.invokespecial 214, 3) := by decide +kernel
theorem dL_holds_42 : decode cL_holds 42 = .ok (.astore_n 2, 1) := by decide +kernel
theorem dL_holds_43 : decode cL_holds 43 = .ok (.bipush 32, 2) := by decide +kernel
theorem dL_holds_45 : decode cL_holds 45 = .ok (.newarray .int, 2) := by decide +kernel
theorem dL_holds_47 : decode cL_holds 47 = .ok (.astore_n 3, 1) := by decide +kernel
theorem dL_holds_48 : decode cL_holds 48 = .ok (.bipush 27, 2) := by decide +kernel
theorem dL_holds_50 : decode cL_holds 50 = .ok (.newarray .long, 2) := by decide +kernel
theorem dL_holds_52 : decode cL_holds 52 = .ok (.astore 4, 2) := by decide +kernel
theorem dL_holds_54 : decode cL_holds 54 = .ok (.bipush 9, 2) := by decide +kernel
theorem dL_holds_56 : decode cL_holds 56 = .ok (.newarray .int, 2) := by decide +kernel
theorem dL_holds_58 : decode cL_holds 58 = .ok (.astore 5, 2) := by decide +kernel
theorem dL_holds_60 : decode cL_holds 60 = .ok (.bipush 18, 2) := by decide +kernel
theorem dL_holds_62 : decode cL_holds 62 = .ok (.newarray .int, 2) := by decide +kernel
theorem dL_holds_64 : decode cL_holds 64 = .ok (.astore 6, 2) := by decide +kernel
theorem dL_holds_66 : decode cL_holds 66 = .ok (.bipush 8, 2) := by decide +kernel
theorem dL_holds_68 : decode cL_holds 68 = .ok (.newarray .int, 2) := by decide +kernel
theorem dL_holds_70 : decode cL_holds 70 = .ok (.astore 7, 2) := by decide +kernel
theorem dL_holds_72 : decode cL_holds 72 = .ok (.bipush 8, 2) := by decide +kernel
theorem dL_holds_74 : decode cL_holds 74 = .ok (.newarray .int, 2) := by decide +kernel
theorem dL_holds_76 : decode cL_holds 76 = .ok (.astore 8, 2) := by decide +kernel
theorem dL_holds_78 : decode cL_holds 78 = .ok (.bipush 8, 2) := by decide +kernel
theorem dL_holds_80 : decode cL_holds 80 = .ok (.newarray .int, 2) := by decide +kernel
theorem dL_holds_82 : decode cL_holds 82 = .ok (.astore 9, 2) := by decide +kernel
theorem dL_holds_84 : decode cL_holds 84 = .ok (.bipush 10, 2) := by decide +kernel
theorem dL_holds_86 : decode cL_holds 86 = .ok (.newarray .int, 2) := by decide +kernel
theorem dL_holds_88 : decode cL_holds 88 = .ok (.astore 10, 2) := by decide +kernel
theorem dL_holds_90 : decode cL_holds 90 = .ok (.iconst 1, 1) := by decide +kernel
theorem dL_holds_91 : decode cL_holds 91 = .ok (.istore 11, 2) := by decide +kernel
theorem dL_holds_93 : decode cL_holds 93 = .ok (.aload 10, 2) := by decide +kernel
theorem dL_holds_95 : decode cL_holds 95 = .ok (.iconst 1, 1) := by decide +kernel
theorem dL_holds_96 : decode cL_holds 96 = .ok (.iconst (-1), 1) := by decide +kernel
theorem dL_holds_97 : decode cL_holds 97 = .ok (.iastore, 1) := by decide +kernel
theorem dL_holds_98 : decode cL_holds 98 = .ok (.aload 10, 2) := by decide +kernel
theorem dL_holds_100 : decode cL_holds 100 = .ok (.bipush 9, 2) := by decide +kernel
theorem dL_holds_102 : decode cL_holds 102 = .ok (.iload_n 1, 1) := by decide +kernel
theorem dL_holds_103 : decode cL_holds 103 = .ok (.iastore, 1) := by decide +kernel
theorem dL_holds_104 : decode cL_holds 104 = .ok (.iconst 0, 1) := by decide +kernel
theorem dL_holds_105 : decode cL_holds 105 = .ok (.istore 12, 2) := by decide +kernel
theorem dL_holds_107 : decode cL_holds 107 = .ok (.iload 12, 2) := by decide +kernel
theorem dL_holds_109 : decode cL_holds 109 = .ok (.bipush 8, 2) := by decide +kernel
theorem dL_holds_111 : decode cL_holds 111 = .ok (.if_icmp .ge 42, 3) := by decide +kernel
theorem dL_holds_114 : decode cL_holds 114 = .ok (.aload 9, 2) := by decide +kernel
theorem dL_holds_116 : decode cL_holds 116 = .ok (.iload 12, 2) := by decide +kernel
theorem dL_holds_118 : decode cL_holds 118 = .ok (.iconst (-1), 1) := by decide +kernel
theorem dL_holds_119 : decode cL_holds 119 = .ok (.iastore, 1) := by decide +kernel
theorem dL_holds_120 : decode cL_holds 120 = .ok (.iload 11, 2) := by decide +kernel
theorem dL_holds_122 : decode cL_holds 122 = .ok (.ifCond .eq 22, 3) := by decide +kernel
theorem dL_holds_125 : decode cL_holds 125 = .ok (.iload 12, 2) := by decide +kernel
theorem dL_holds_127 : decode cL_holds 127 = .ok (.iconst 3, 1) := by decide +kernel
theorem dL_holds_128 : decode cL_holds 128 = .ok (.if_icmp .gt 12, 3) := by decide +kernel
theorem dL_holds_131 : decode cL_holds 131 = .ok (.aload_n 2, 1) := by decide +kernel
theorem dL_holds_132 : decode cL_holds 132 = .ok (.invokevirtual 217, 3) := by decide +kernel
theorem dL_holds_135 : decode cL_holds 135 = .ok (.iload 12, 2) := by decide +kernel
theorem dL_holds_137 : decode cL_holds 137 = .ok (.if_icmp .ne 7, 3) := by decide +kernel
theorem dL_holds_140 : decode cL_holds 140 = .ok (.iconst 1, 1) := by decide +kernel
theorem dL_holds_141 : decode cL_holds 141 = .ok (.goto 4, 3) := by decide +kernel
theorem dL_holds_144 : decode cL_holds 144 = .ok (.iconst 0, 1) := by decide +kernel
theorem dL_holds_145 : decode cL_holds 145 = .ok (.istore 11, 2) := by decide +kernel
theorem dL_holds_147 : decode cL_holds 147 = .ok (.iinc 12 1, 3) := by decide +kernel
theorem dL_holds_150 : decode cL_holds 150 = .ok (.goto (-43), 3) := by decide +kernel
theorem dL_holds_153 : decode cL_holds 153 = .ok (.iload 11, 2) := by decide +kernel
theorem dL_holds_155 : decode cL_holds 155 = .ok (.ifCond .eq 30, 3) := by decide +kernel
theorem dL_holds_158 : decode cL_holds 158 = .ok (.aload_n 2, 1) := by decide +kernel
theorem dL_holds_159 : decode cL_holds 159 = .ok (.iconst 1, 1) := by decide +kernel
theorem dL_holds_160 : decode cL_holds 160 = .ok (.invokevirtual 219, 3) := by decide +kernel
theorem dL_holds_163 : decode cL_holds 163 = .ok (.bipush 6, 2) := by decide +kernel
theorem dL_holds_165 : decode cL_holds 165 = .ok (.if_icmp .ne 20, 3) := by decide +kernel
theorem dL_holds_168 : decode cL_holds 168 = .ok (.aload_n 2, 1) := by decide +kernel
theorem dL_holds_169 : decode cL_holds 169 = .ok (.bipush 6, 2) := by decide +kernel
theorem dL_holds_171 : decode cL_holds 171 = .ok (.iconst 0, 1) := by decide +kernel
theorem dL_holds_172 : decode cL_holds 172 = .ok (.iconst 0, 1) := by decide +kernel
theorem dL_holds_173 : decode cL_holds 173 = .ok (.invokestatic 144, 3) := by decide +kernel
theorem dL_holds_176 : decode cL_holds 176 = .ok (.bipush (-8), 2) := by decide +kernel
theorem dL_holds_178 : decode cL_holds 178 = .ok (.if_icmp .ne 7, 3) := by decide +kernel
theorem dL_holds_181 : decode cL_holds 181 = .ok (.iconst 1, 1) := by decide +kernel
theorem dL_holds_182 : decode cL_holds 182 = .ok (.goto 4, 3) := by decide +kernel
theorem dL_holds_185 : decode cL_holds 185 = .ok (.iconst 0, 1) := by decide +kernel
theorem dL_holds_186 : decode cL_holds 186 = .ok (.istore 11, 2) := by decide +kernel
theorem dL_holds_188 : decode cL_holds 188 = .ok (.iconst 0, 1) := by decide +kernel
theorem dL_holds_189 : decode cL_holds 189 = .ok (.istore 12, 2) := by decide +kernel
theorem dL_holds_191 : decode cL_holds 191 = .ok (.iload 12, 2) := by decide +kernel
theorem dL_holds_193 : decode cL_holds 193 = .ok (.bipush 90, 2) := by decide +kernel
theorem dL_holds_195 : decode cL_holds 195 = .ok (.if_icmp .ge 117, 3) := by decide +kernel
theorem dL_holds_198 : decode cL_holds 198 = .ok (.iload 11, 2) := by decide +kernel
theorem dL_holds_200 : decode cL_holds 200 = .ok (.ifCond .eq 112, 3) := by decide +kernel
theorem dL_holds_203 : decode cL_holds 203 = .ok (.aload_n 0, 1) := by decide +kernel
theorem dL_holds_204 : decode cL_holds 204 = .ok (.iconst 2, 1) := by decide +kernel
theorem dL_holds_205 : decode cL_holds 205 = .ok (.iload 12, 2) := by decide +kernel
theorem dL_holds_207 : decode cL_holds 207 = .ok (.imul, 1) := by decide +kernel
theorem dL_holds_208 : decode cL_holds 208 = .ok (.iconst 1, 1) := by decide +kernel
theorem dL_holds_209 : decode cL_holds 209 = .ok (.iadd, 1) := by decide +kernel
theorem dL_holds_210 : decode cL_holds 210 = .ok (.ldc 222, 2) := by decide +kernel
theorem dL_holds_212 : decode cL_holds 212 = .ok (.invokestatic 163, 3) := by decide +kernel
theorem dL_holds_215 : decode cL_holds 215 = .ok (.istore 13, 2) := by decide +kernel
theorem dL_holds_217 : decode cL_holds 217 = .ok (.aload_n 2, 1) := by decide +kernel
theorem dL_holds_218 : decode cL_holds 218 = .ok (.aload_n 3, 1) := by decide +kernel
theorem dL_holds_219 : decode cL_holds 219 = .ok (.aload 4, 2) := by decide +kernel
theorem dL_holds_221 : decode cL_holds 221 = .ok (.aload 5, 2) := by decide +kernel
theorem dL_holds_223 : decode cL_holds 223 = .ok (.aload 6, 2) := by decide +kernel
theorem dL_holds_225 : decode cL_holds 225 = .ok (.aload 7, 2) := by decide +kernel
theorem dL_holds_227 : decode cL_holds 227 = .ok (.aload 8, 2) := by decide +kernel
theorem dL_holds_229 : decode cL_holds 229 = .ok (.aload 9, 2) := by decide +kernel
theorem dL_holds_231 : decode cL_holds 231 = .ok (.aload 10, 2) := by decide +kernel
theorem dL_holds_233 : decode cL_holds 233 = .ok (.aload_n 0, 1) := by decide +kernel
theorem dL_holds_234 : decode cL_holds 234 = .ok (.sipush 300, 3) := by decide +kernel
theorem dL_holds_237 : decode cL_holds 237 = .ok (.bipush 7, 2) := by decide +kernel
theorem dL_holds_239 : decode cL_holds 239 = .ok (.iload 12, 2) := by decide +kernel
theorem dL_holds_241 : decode cL_holds 241 = .ok (.imul, 1) := by decide +kernel
theorem dL_holds_242 : decode cL_holds 242 = .ok (.iadd, 1) := by decide +kernel
theorem dL_holds_243 : decode cL_holds 243 = .ok (.iload 12, 2) := by decide +kernel
theorem dL_holds_245 : decode cL_holds 245 = .ok (.iconst 1, 1) := by decide +kernel
theorem dL_holds_246 : decode cL_holds 246 = .ok (.if_icmp .ge 7, 3) := by decide +kernel
theorem dL_holds_249 : decode cL_holds 249 = .ok (.iconst 0, 1) := by decide +kernel
theorem dL_holds_250 : decode cL_holds 250 = .ok (.goto 13, 3) := by decide +kernel
theorem dL_holds_253 : decode cL_holds 253 = .ok (.aload_n 0, 1) := by decide +kernel
theorem dL_holds_254 : decode cL_holds 254 = .ok (.iconst 2, 1) := by decide +kernel
theorem dL_holds_255 : decode cL_holds 255 = .ok (.iload 12, 2) := by decide +kernel
theorem dL_holds_257 : decode cL_holds 257 = .ok (.imul, 1) := by decide +kernel
theorem dL_holds_258 : decode cL_holds 258 = .ok (.bipush 20, 2) := by decide +kernel
theorem dL_holds_260 : decode cL_holds 260 = .ok (.invokestatic 163, 3) := by decide +kernel
theorem dL_holds_263 : decode cL_holds 263 = .ok (.iload 13, 2) := by decide +kernel
theorem dL_holds_265 : decode cL_holds 265 = .ok (.invokestatic 223, 3) := by decide +kernel
theorem dL_holds_268 : decode cL_holds 268 = .ok (.ifCond .eq 35, 3) := by decide +kernel
theorem dL_holds_271 : decode cL_holds 271 = .ok (.iload 12, 2) := by decide +kernel
theorem dL_holds_273 : decode cL_holds 273 = .ok (.iconst 5, 1) := by decide +kernel
theorem dL_holds_274 : decode cL_holds 274 = .ok (.irem, 1) := by decide +kernel
theorem dL_holds_275 : decode cL_holds 275 = .ok (.iconst 4, 1) := by decide +kernel
theorem dL_holds_276 : decode cL_holds 276 = .ok (.if_icmp .lt 23, 3) := by decide +kernel
theorem dL_holds_279 : decode cL_holds 279 = .ok (.aload_n 2, 1) := by decide +kernel
theorem dL_holds_280 : decode cL_holds 280 = .ok (.aload_n 3, 1) := by decide +kernel
theorem dL_holds_281 : decode cL_holds 281 = .ok (.aload 4, 2) := by decide +kernel
theorem dL_holds_283 : decode cL_holds 283 = .ok (.aload 5, 2) := by decide +kernel
theorem dL_holds_285 : decode cL_holds 285 = .ok (.aload 6, 2) := by decide +kernel
theorem dL_holds_287 : decode cL_holds 287 = .ok (.aload 9, 2) := by decide +kernel
theorem dL_holds_289 : decode cL_holds 289 = .ok (.aload 10, 2) := by decide +kernel
theorem dL_holds_291 : decode cL_holds 291 = .ok (.iload 13, 2) := by decide +kernel
theorem dL_holds_293 : decode cL_holds 293 = .ok (.invokestatic 227, 3) := by decide +kernel
theorem dL_holds_296 : decode cL_holds 296 = .ok (.ifCond .eq 7, 3) := by decide +kernel
theorem dL_holds_299 : decode cL_holds 299 = .ok (.iconst 1, 1) := by decide +kernel
theorem dL_holds_300 : decode cL_holds 300 = .ok (.goto 4, 3) := by decide +kernel
theorem dL_holds_303 : decode cL_holds 303 = .ok (.iconst 0, 1) := by decide +kernel
theorem dL_holds_304 : decode cL_holds 304 = .ok (.istore 11, 2) := by decide +kernel
theorem dL_holds_306 : decode cL_holds 306 = .ok (.iinc 12 1, 3) := by decide +kernel
theorem dL_holds_309 : decode cL_holds 309 = .ok (.goto (-118), 3) := by decide +kernel
theorem dL_holds_312 : decode cL_holds 312 = .ok (.iload 11, 2) := by decide +kernel
theorem dL_holds_314 : decode cL_holds 314 = .ok (.ifCond .eq 27, 3) := by decide +kernel
theorem dL_holds_317 : decode cL_holds 317 = .ok (.aload_n 2, 1) := by decide +kernel
theorem dL_holds_318 : decode cL_holds 318 = .ok (.aload_n 3, 1) := by decide +kernel
theorem dL_holds_319 : decode cL_holds 319 = .ok (.aload 4, 2) := by decide +kernel
theorem dL_holds_321 : decode cL_holds 321 = .ok (.aload 5, 2) := by decide +kernel
theorem dL_holds_323 : decode cL_holds 323 = .ok (.aload 6, 2) := by decide +kernel
theorem dL_holds_325 : decode cL_holds 325 = .ok (.aload 9, 2) := by decide +kernel
theorem dL_holds_327 : decode cL_holds 327 = .ok (.aload 10, 2) := by decide +kernel
theorem dL_holds_329 : decode cL_holds 329 = .ok (.bipush 15, 2) := by decide +kernel
theorem dL_holds_331 : decode cL_holds 331 = .ok (.invokestatic 227, 3) := by decide +kernel
theorem dL_holds_334 : decode cL_holds 334 = .ok (.ifCond .eq 7, 3) := by decide +kernel
theorem dL_holds_337 : decode cL_holds 337 = .ok (.iconst 1, 1) := by decide +kernel
theorem dL_holds_338 : decode cL_holds 338 = .ok (.goto 4, 3) := by decide +kernel
theorem dL_holds_341 : decode cL_holds 341 = .ok (.iconst 0, 1) := by decide +kernel
theorem dL_holds_342 : decode cL_holds 342 = .ok (.ireturn, 1) := by decide +kernel
theorem dL_isHeld_0 : decode cL_isHeld 0 = .ok (.aload_n 0, 1) := by decide +kernel
theorem dL_isHeld_1 : decode cL_isHeld 1 = .ok (.invokestatic 230, 3) := by decide +kernel
theorem dL_isHeld_4 : decode cL_isHeld 4 = .ok (.ireturn, 1) := by decide +kernel
theorem dL_isHeld_5 : decode cL_isHeld 5 = .ok (.astore_n 1, 1) := by decide +kernel
theorem dL_isHeld_6 : decode cL_isHeld 6 = .ok (.iconst 0, 1) := by decide +kernel
theorem dL_isHeld_7 : decode cL_isHeld 7 = .ok (.ireturn, 1) := by decide +kernel
theorem dL_isHeld_8 : decode cL_isHeld 8 = .ok (.astore_n 1, 1) := by decide +kernel
theorem dL_isHeld_9 : decode cL_isHeld 9 = .ok (.iconst 0, 1) := by decide +kernel
theorem dL_isHeld_10 : decode cL_isHeld 10 = .ok (.ireturn, 1) := by decide +kernel
theorem dL_isHeld_11 : decode cL_isHeld 11 = .ok (.astore_n 1, 1) := by decide +kernel
theorem dL_isHeld_12 : decode cL_isHeld 12 = .ok (.iconst 0, 1) := by decide +kernel
theorem dL_isHeld_13 : decode cL_isHeld 13 = .ok (.ireturn, 1) := by decide +kernel
theorem dL_law_0 : decode cL_law 0 = .ok (.aload_n 0, 1) := by decide +kernel
theorem dL_law_1 : decode cL_law 1 = .ok (.invokestatic 236, 3) := by decide +kernel
theorem dL_law_4 : decode cL_law 4 = .ok (.ireturn, 1) := by decide +kernel
end
section
/-! LOGICAL HEAPS OVER THE MACHINE: addresses are tags that the writer chooses; a judgement J over a frame, with one rule an instruction; a contract CT a method. My own text. -/
abbrev Tg : Type := Nat × Int
/-- a value: an int, a long, a reference by its tag or null -/
abbrev LV : Type := Int32 ⊕ (Int64 ⊕ Option Tg)
abbrev vI (x : Int32) : LV := .inl x
abbrev vL (x : Int64) : LV := .inr (.inl x)
abbrev vR (o : Option Tg) : LV := .inr (.inr o)
/-- a cell: an object (class, fields) or a row (kind, length, what it holds) -/
abbrev LC : Type := (Nat × List LV) ⊕ (Nat × Nat × ((Nat → Int32) ⊕ ((Nat → Int64) ⊕ (Nat → Option Tg))))
abbrev cO (ci : Nat) (fs : List LV) : LC := .inl (ci, fs)
abbrev cI (k n : Nat) (f : Nat → Int32) : LC := .inr (k, n, .inl f)
abbrev cL (k n : Nat) (f : Nat → Int64) : LC := .inr (k, n, .inr (.inl f))
abbrev cQ (k n : Nat) (f : Nat → Option Tg) : LC := .inr (k, n, .inr (.inr f))
abbrev LH : Type := Tg → Option LC
def hup (h : LH) (t : Tg) (c : LC) : LH := fun u => if u = t then some c else h u
theorem hup_s {h : LH} {t : Tg} {c : LC} : hup h t c t = some c := if_pos rfl
theorem hup_n {h : LH} {t u : Tg} {c : LC} (e : u ≠ t) : hup h t c u = h u := if_neg e
def phR (ψ : Tg → Nat) (o : Option Tg) : Value := va_rf (o.map ψ)
def ph (ψ : Tg → Nat) : LV → Value
  | .inl x => .int x
  | .inr (.inl x) => .long x
  | .inr (.inr o) => phR ψ o
abbrev tScr : Tg := (0, 0)
def Lt (h : LH) (t : Tg) : Prop := h t ≠ none ∨ t = tScr
def Lv (h : LH) : LV → Prop
  | .inr (.inr (some t)) => Lt h t
  | _ => True
def Lc (h : LH) : LC → Prop
  | .inl o => ∀ v ∈ o.2, Lv h v
  | .inr (_, _, .inr (.inr f)) => ∀ j t, f j = some t → Lt h t
  | .inr _ => True
def aTy : Nat → FieldType := fun k => match k with
  | 0 => .int
  | 1 => .int
  | 2 => .long
  | 3 => .object RX1
  | 4 => .object RX6
  | 5 => .object RX0
  | _ => .object RX2
def tysL (tc : Nat → ClassId) : List (ClassId × FieldType) := (List.range 7).map (fun k => (tc k, aTy k))
theorem tysL_at (tc : Nat → ClassId) {k : Nat} (hk : k < 7) : (tysL tc)[k]? = some (tc k, aTy k) := by
  simp [tysL, hk]
def conc (tc : Nat → ClassId) (ψ : Tg → Nat) : LC → va_E
  | .inl o => .inr (o.1, o.2.map (ph ψ))
  | .inr (k, n, .inl f) => .inl (tc k, n, .inl f)
  | .inr (k, n, .inr (.inl f)) => .inl (tc k, n, .inr (.inl f))
  | .inr (k, n, .inr (.inr f)) => .inl (tc k, n, .inr (.inr (.inr (.inr (fun j => (f j).map ψ)))))
/-- what stays through the whole run: launch, class ids, ids of the rows' classes, the heap at the start, the script -/
abbrev GX : Type := Launch × va_G × (Nat → ClassId) × Heap × Nat × Nat × (Nat → Int32)
abbrev xl (X : GX) : Launch := X.1
abbrev xD (X : GX) : va_G := X.2.1
abbrev xtc (X : GX) : Nat → ClassId := X.2.2.1
abbrev xB (X : GX) : Heap := X.2.2.2.1
abbrev xb (X : GX) : Nat := X.2.2.2.2.1
abbrev xL (X : GX) : Nat := X.2.2.2.2.2.1
abbrev xs (X : GX) : Nat → Int32 := X.2.2.2.2.2.2
abbrev xA (X : GX) : Addr → Prop := fun q => (xB X).size ≤ q
def HR (X : GX) (ψ : Tg → Nat) (h : LH) (H : Heap) : Prop :=
  (∀ t c, h t = some c → va_at (xD X) vwCl (ψ t, conc (xtc X) ψ c) H ∧ (xB X).size ≤ ψ t ∧ Lc h c) ∧
  (∀ t t', Lt h t → Lt h t' → ψ t = ψ t' → t = t') ∧ ψ tScr = xb X ∧ h tScr = none ∧ xb X < (xB X).size ∧
  (xB X).size ≤ H.size ∧ ∀ q, q < (xB X).size → H[q]? = (xB X)[q]?
def ext (ψ ψ' : Tg → Nat) (h h' : LH) : Prop := ∀ t, Lt h t → ψ' t = ψ t ∧ Lt h' t
theorem ext_rf {ψ : Tg → Nat} {h : LH} : ext ψ ψ h h := fun _ hl => ⟨rfl, hl⟩
theorem ext_tr {ψ ψ' ψ'' : Tg → Nat} {h h' h'' : LH} (a : ext ψ ψ' h h') (b : ext ψ' ψ'' h' h'') : ext ψ ψ'' h h'' := fun t hl => ⟨(b t (a t hl).2).1.trans (a t hl).1, (b t (a t hl).2).2⟩
theorem ext_ph {ψ ψ' : Tg → Nat} {h h' : LH} (a : ext ψ ψ' h h') {v : LV} (hv : Lv h v) : ph ψ' v = ph ψ v := by
  match v, hv with
  | .inl x, _ => rfl
  | .inr (.inl x), _ => rfl
  | .inr (.inr none), _ => rfl
  | .inr (.inr (some t)), hv => show Value.ref (ψ' t) = Value.ref (ψ t); rw [(a t hv).1]
theorem ext_lv {ψ ψ' : Tg → Nat} {h h' : LH} (a : ext ψ ψ' h h') {v : LV} (hv : Lv h v) : Lv h' v := by
  match v, hv with
  | .inl x, _ => trivial
  | .inr (.inl x), _ => trivial
  | .inr (.inr none), _ => trivial
  | .inr (.inr (some t)), hv => exact (a t hv).2
theorem ext_map {ψ ψ' : Tg → Nat} {h h' : LH} (a : ext ψ ψ' h h') {st : List LV} (hv : ∀ v ∈ st, Lv h v) : st.map (ph ψ') = st.map (ph ψ) := List.map_congr_left (fun v hm => ext_ph a (hv v hm))
/-- the locals -/
def LRel (ψ : Tg → Nat) (ls : List (Option LV)) (la : Array Slot) (nL : Nat) : Prop := la.size = nL ∧ lv_wf la ∧ ∀ (i : Nat) (v : LV), ls[i]? = some (some v) → la[i]? = some (Slot.val (ph ψ v))
theorem LRel_ext {ψ ψ' : Tg → Nat} {h h' : LH} (a : ext ψ ψ' h h') {ls : List (Option LV)} (hv : ∀ v, some v ∈ ls → Lv h v) {la : Array Slot} {nL : Nat} (r : LRel ψ ls la nL) : LRel ψ' ls la nL :=
  ⟨r.1, r.2.1, fun i v hi => by rw [ext_ph a (hv v (List.mem_of_getElem? hi))]; exact r.2.2 i v hi⟩
/-- the tables' words that keep under warming; those that have laws of their own -/
def GW : List Cond := lw_tbl.filter goodWord
def mvWord : Cond → Bool
  | .methodLinkNest .. => true
  | .declares _ => true
  | .castable .. => true
  | _ => false
def EW : List Cond := lw_tbl.filter mvWord
theorem mv_moves {w : Cond} (hw : mvWord w = true) {s U : State} (hW : s.WarmedH U.vm) (h : va_Nw w s) : va_Nw w U := by
  cases w <;> first
    | exact va_Nw.warmM hW h
    | exact va_Nw.warmD hW h
    | exact va_Nw.warmC hW h
    | (simp [mvWord] at hw; done)
theorem mv_tabs {w : Cond} (hw : mvWord w = true) : w.onTables = true := by
  cases w <;> first
    | rfl
    | (simp [mvWord] at hw; done)
def aoL : List String := [RX1, RX6, RX0, RX2]
abbrev exN (k : Nat) : String := if k = 0 then "java/lang/IllegalStateException" else if k = 1 then "java/lang/IllegalArgumentException" else "java/lang/IndexOutOfBoundsException"
def ncL : List (String × String) := [(exN 0, exN 1), (exN 0, exN 2), (exN 1, exN 0), (exN 1, exN 2), (exN 2, exN 0), (exN 2, exN 1)]
/-- what the tables and the statics say, in any state of the run -/
def KK (X : GX) (U : State) : Prop :=
  va_K (xD X) vwCl (tysL (xtc X)) U ∧ (∀ q ∈ strL, ∃ a, vk_R RX7 q.1 q.2 a U) ∧ (∀ w ∈ EW, va_Nw w U) ∧ (∀ C ∈ aoL, va_AO C U) ∧ (∀ q ∈ ncL, va_Nc q.1 q.2 U) ∧
  vx_Zq Bundle.tN "UNASSIGNED_STACK" Bundle.steD (xA X) U (xB X) ∧ vx_Zq Bundle.tN "SUPPRESSED_SENTINEL" Bundle.listD (xA X) U (xB X) ∧ va_X (xb X) (xL X) (xs X) U (xB X) ∧ (xl X).stackTraces = false
theorem KK.warm {X : GX} {s U : State} (hW : s.WarmedH U.vm) (h : KK X s) : KK X U := by
  obtain ⟨h1, h2, h3, h4, h5, h6, h7, h8, h9⟩ := h
  have hv : s.vm.Alike U.vm := hW.alike
  exact ⟨va_K.moved hv h1, fun q hq => ⟨_, vk_R.warm hW (h2 q hq).choose_spec⟩, fun w hw => mv_moves (List.mem_filter.mp hw).2 hW (h3 w hw), fun C hC => va_AO.moved hv (h4 C hC), fun q hq => va_Nc.moved hv (h5 q hq), vx_Zq.moved hv h6, vx_Zq.moved hv h7, va_X.moved hv h8, h9⟩
/-- a method: name, code, locals, what it returns, its handlers, its room -/
abbrev MI : Type := MethodName × ByteArray × Nat × Option FieldType × List (Nat × Nat × Nat × Nat) × Room
abbrev mN (M : MI) : MethodName := M.1
abbrev mC (M : MI) : ByteArray := M.2.1
abbrev mL (M : MI) : Nat := M.2.2.1
abbrev mT (M : MI) : Option FieldType := M.2.2.2.1
abbrev mH (M : MI) : List (Nat × Nat × Nat × Nat) := M.2.2.2.2.1
abbrev mR (M : MI) : Room := M.2.2.2.2.2
def wsO (M : MI) : List Cond := (if (mH M).isEmpty then Cond.code (mN M) (mC M) (mL M) (mT M) else Cond.codeWith (mN M) (mC M) (mL M) (mT M) (mH M)) :: GW
/-- how a method ends: it returns, or throws an exception of the kind k -/
abbrev LO : Type := Option LV ⊕ Nat
abbrev rt (v : LV) : LO := .inl (some v)
abbrev rv : LO := .inl none
def QR (X : GX) (ψ0 : Tg → Nat) (h0 : LH) (Q : LO → LH → Prop) : Array Value → State → Outcome → State → Prop := fun _ _ o t =>
  ∃ (v : Option LV) (h : LH) (ψ : Tg → Nat), o = .returned (v.map (ph ψ)) ∧ Q (.inl v) h ∧ HR X ψ h t.heap ∧ ext ψ0 ψ h0 h ∧ ∀ w ∈ v, Lv h w
def QX (X : GX) (ψ0 : Tg → Nat) (h0 : LH) (Q : LO → LH → Prop) : String → State → State → Prop := fun E _ t =>
  ∃ (k : Nat) (h : LH) (ψ : Tg → Nat), E = exN k ∧ Q (.inr k) h ∧ HR X ψ h t.heap ∧ ext ψ0 ψ h0 h
/-- a method's contract -/
def CT (X : GX) (M : MI) (as : List LV) (h : LH) (Q : LO → LH → Prop) : Prop :=
  ∀ ψ : Tg → Nat, vx_Met (xl X) (mN M) (wsO M) (mR M) (va_Pc (as.map (ph ψ)) (fun U => KK X U ∧ HR X ψ h U.heap ∧ ∀ v ∈ as, Lv h v)) (QR X ψ h Q) (QX X ψ h Q) (mR M).cells (mR M).slots (xA X)
def FOK (X : GX) (M : MI) (p : Program) (R : Room) (s : State) (m : MethodId) (args : Array Value) (meth : Method) (c : Code) : Prop :=
  p.tables.exec = Jvm.exec ∧ c.code = mC M ∧ c.maxLocals = mL M ∧ meth.sig.returnType = mT M ∧ meth.locks = false ∧ s.vm.findClass (mN M).cls = some m.cls ∧ (∀ w ∈ GW, w.before args s = true) ∧ KK X s ∧ R = mR M ∧ c.exceptionTable.toList = tableOf (mH M) ∧ meth.name = (mN M).name ∧ (xB X).size ≤ s.heap.size ∧ ∀ q, q < (xB X).size → s.heap[q]? = (xB X)[q]?
/-- the frame of M at pc: it comes to an end with Q; k cells and n slots may still be made -/
def J0 (X : GX) (M : MI) (pc : Nat) (ls : List (Option LV)) (st : List LV) (h : LH) (k n : Nat) (Q : LO → LH → Prop) : Prop :=
  ∀ (p : Program) (e : Env) (R : Room) (s : State) (m : MethodId) (args : Array Value) (below : List Frame) (meth : Method) (c : Code) (ψ0 : Tg → Nat) (h0 : LH), FOK X M p R s m args meth c →
  ∀ (ψ : Tg → Nat) (H : Heap) (locs : List Loc) (cells slots : Nat) (la : Array Slot), HR X ψ h H → ext ψ0 ψ h0 h → LRel ψ ls la (mL M) → (∀ v ∈ st, Lv h v) → (∀ v, some v ∈ ls → Lv h v) → (∀ z ∈ locs, xA X z.base) → cells + k ≤ (mR M).cells → slots + n ≤ (mR M).slots →
    W p (xl X) e R s m args below meth c H locs cells slots (vx_MQ below (QR X ψ0 h0 Q) (QX X ψ0 h0 Q) args s (mR M).cells (mR M).slots (xA X)) (F0 m pc la (st.map (ph ψ)))
theorem J_ne : Nonempty {f : GX → MI → Nat → List (Option LV) → List LV → LH → Nat → Nat → (LO → LH → Prop) → Prop // f = J0} := ⟨⟨J0, rfl⟩⟩
/-- J0 under a name that unification doesn't unfold -/
noncomputable def J : GX → MI → Nat → List (Option LV) → List LV → LH → Nat → Nat → (LO → LH → Prop) → Prop := (Classical.choice J_ne).1
theorem J_def : J = J0 := (Classical.choice J_ne).2
theorem CT.mono {X : GX} {M : MI} {as : List LV} {h : LH} {Q Q' : LO → LH → Prop} (hq : ∀ o h', Q o h' → Q' o h') (hc : CT X M as h Q) : CT X M as h Q' := by
  intro ψ p e ha hcas hck s m args below hf happ hP hK
  obtain ⟨n, o, h1, h2, h3, h4⟩ := hc ψ p e ha hcas hck s m args below hf happ hP hK
  refine ⟨n, o, h1, h2, h3, ?_⟩
  rcases h4 with ⟨⟨v, h', ψ', e1, e2, e3⟩, L⟩ | ⟨q, e0, E, ce, L, ⟨k, h', ψ', e1, e2, e3⟩, r⟩
  · exact Or.inl ⟨⟨v, h', ψ', e1, hq _ _ e2, e3⟩, L⟩
  · exact Or.inr ⟨q, e0, E, ce, L, ⟨k, h', ψ', e1, hq _ _ e2, e3⟩, r⟩
/-- a method that throws nothing -/
def rQ (P : Option LV → LH → Prop) : LO → LH → Prop := fun o h => match o with
  | .inl v => P v h
  | .inr _ => False
theorem CT.met {X : GX} {M : MI} {as : List LV} {h : LH} {P : Option LV → LH → Prop} (hc : CT X M as h (rQ P)) (ψ : Tg → Nat) :
    Met (xl X) (mN M) (wsO M) (mR M) (va_Pc (as.map (ph ψ)) (fun U => KK X U ∧ HR X ψ h U.heap ∧ ∀ v ∈ as, Lv h v)) (QR X ψ h (rQ P)) (mR M).cells (mR M).slots (xA X) := by
  intro p e ha hcas hck s m args below hf happ hP hK
  obtain ⟨n, o, h1, h2, h3, h4⟩ := hc ψ p e ha hcas hck s m args below hf happ hP hK
  refine ⟨n, o, h1, h2, h3, ?_⟩
  rcases h4 with ⟨hq, L⟩ | ⟨q, e0, E, ce, L, ⟨k, h', ψ', e1, e2, e3⟩, r⟩
  · exact ⟨hq, L⟩
  · exact e2.elim
end
section
/-! RULES OF J THAT DON'T TOUCH THE HEAP -/
def c1 (v : LV) : Bool := match v with
  | .inr (.inl _) => false
  | _ => true
theorem c1_cat {ψ : Tg → Nat} {v : LV} (h : c1 v = true) : (ph ψ v).category = 1 := by
  match v, h with
  | .inl x, _ => rfl
  | .inr (.inr none), _ => rfl
  | .inr (.inr (some t)), _ => rfl
def toL (ψ : Tg → Nat) (ls : List (Option LV)) : List (Nat × Value) := (List.range ls.length).filterMap (fun j => match ls[j]? with
  | some (some v) => some (j, ph ψ v)
  | _ => none)
theorem toL_in {ψ : Tg → Nat} {ls : List (Option LV)} {j : Nat} {v : LV} (h : ls[j]? = some (some v)) : (j, ph ψ v) ∈ toL ψ ls := by
  refine List.mem_filterMap.mpr ⟨j, List.mem_range.mpr (List.getElem?_eq_some_iff.mp h).1, ?_⟩
  rw [h]
theorem toL_of {ψ : Tg → Nat} {ls : List (Option LV)} {q : Nat × Value} (h : q ∈ toL ψ ls) : ∃ v, ls[q.1]? = some (some v) ∧ q.2 = ph ψ v := by
  obtain ⟨j, hj, he⟩ := List.mem_filterMap.mp h
  split at he
  next v hv => cases he; exact ⟨v, hv, rfl⟩
  next => cases he
theorem LRel_has {ψ : Tg → Nat} {ls : List (Option LV)} {la : Array Slot} {nL : Nat} (r : LRel ψ ls la nL) : lv_has la nL (toL ψ ls) := by
  refine ⟨r.1, r.2.1, fun q hq => ?_⟩
  obtain ⟨v, h1, h2⟩ := toL_of hq
  rw [h2]
  exact r.2.2 q.1 v h1
/-- no long lies just ahead of the local i -/
def nlg (ls : List (Option LV)) : Nat → Bool
  | 0 => true
  | i + 1 => match ls[i]? with
    | some (some v) => c1 v
    | _ => true
theorem nlg_cat {ψ : Tg → Nat} {ls : List (Option LV)} {i j : Nat} {w : LV} (hp : nlg ls i = true) (e : j + 1 = i) (hw : ls[j]? = some (some w)) : (ph ψ w).category = 1 := by
  subst e
  have hp2 : (match ls[j]? with
    | some (some v) => c1 v
    | _ => true) = true := hp
  rw [hw] at hp2
  exact c1_cat hp2
theorem LRel_set {ψ : Tg → Nat} {ls : List (Option LV)} {la la' : Array Slot} {nL i : Nat} {v : LV} (hp : nlg ls i = true) (r : LRel ψ ls la nL)
    (h : lv_has la' nL ((i, ph ψ v) :: (toL ψ ls).filter (fun q => !(q.1 == i) && !(q.1 + 1 == i && q.2.category == 2)))) : LRel ψ (ls.set i (some v)) la' nL := by
  refine ⟨h.1, h.2.1, fun j w hw => ?_⟩
  by_cases hj : j = i
  · subst hj
    have hl : j < ls.length := by
      have := (List.getElem?_eq_some_iff.mp hw).1
      simpa using this
    rw [List.getElem?_set_self hl] at hw
    cases hw
    exact h.2.2 (j, ph ψ v) List.mem_cons_self
  · rw [List.getElem?_set_ne (Ne.symm hj)] at hw
    refine h.2.2 (j, ph ψ w) (List.mem_cons_of_mem _ (List.mem_filter.mpr ⟨toL_in hw, ?_⟩))
    by_cases e : j + 1 = i
    · have hc := nlg_cat (ψ := ψ) hp e hw
      simp [hj, hc]
    · simp [hj, e]
theorem LRel_setL {ψ : Tg → Nat} {ls : List (Option LV)} {la la' : Array Slot} {nL i : Nat} {v : LV} (hp : nlg ls i = true) (r : LRel ψ ls la nL)
    (h : lv_has la' nL ((i, ph ψ v) :: (toL ψ ls).filter (fun q => !(q.1 == i) && (!(q.1 == i + 1) && !(q.1 + 1 == i && q.2.category == 2))))) : LRel ψ ((ls.set i (some v)).set (i + 1) none) la' nL := by
  refine ⟨h.1, h.2.1, fun j w hw => ?_⟩
  by_cases hj1 : j = i + 1
  · subst hj1
    by_cases hl : i + 1 < (ls.set i (some v)).length
    · rw [List.getElem?_set_self hl] at hw
      cases hw
    · have := (List.getElem?_eq_some_iff.mp hw).1
      rw [List.length_set] at this
      exact absurd this hl
  · rw [List.getElem?_set_ne (Ne.symm hj1)] at hw
    by_cases hj : j = i
    · subst hj
      have hl : j < ls.length := by
        have := (List.getElem?_eq_some_iff.mp hw).1
        simpa using this
      rw [List.getElem?_set_self hl] at hw
      cases hw
      exact h.2.2 (j, ph ψ v) List.mem_cons_self
    · rw [List.getElem?_set_ne (Ne.symm hj)] at hw
      refine h.2.2 (j, ph ψ w) (List.mem_cons_of_mem _ (List.mem_filter.mpr ⟨toL_in hw, ?_⟩))
      by_cases e : j + 1 = i
      · have hc := nlg_cat (ψ := ψ) hp e hw
        simp [hj, hj1, hc]
      · simp [hj, hj1, e]
theorem lv_cons {h : LH} {v : LV} {st : List LV} (hv : Lv h v) (hs : ∀ v ∈ st, Lv h v) : ∀ w ∈ v :: st, Lv h w := List.forall_mem_cons.mpr ⟨hv, hs⟩
theorem lv_set_in {h : LH} {ls : List (Option LV)} {i : Nat} {v : LV} (hv : Lv h v) (hl : ∀ w, some w ∈ ls → Lv h w) : ∀ w, some w ∈ ls.set i (some v) → Lv h w := by
  intro w hw
  rcases List.mem_or_eq_of_mem_set hw with h1 | h1
  · exact hl w h1
  · cases h1; exact hv
section JR
variable {X : GX} {M : MI} {pc : Nat} {ls : List (Option LV)} {st : List LV} {h : LH} {k n : Nat} {Q : LO → LH → Prop}
theorem J_le {k' n' : Nat} (h1 : k' ≤ k) (h2 : n' ≤ n) (kk : J X M pc ls st h k' n' Q) : J X M pc ls st h k n Q := by
  simp only [J_def] at *
  intro p e R s m args below meth c ψ0 h0 F ψ H locs cells slots la hR hE hL hs hl hz hc hn
  exact kk p e R s m args below meth c ψ0 h0 F ψ H locs cells slots la hR hE hL hs hl hz (by omega) (by omega)
theorem J_mono {Q' : LO → LH → Prop} (hq : ∀ o h', Q' o h' → Q o h') (kk : J X M pc ls st h k n Q') : J X M pc ls st h k n Q := by
  simp only [J_def] at *
  intro p e R s m args below meth c ψ0 h0 F ψ H locs cells slots la hR hE hL hs hl hz hc hn
  intro T hT Y
  obtain ⟨t, a, o, b1, b2, b3⟩ := kk p e R s m args below meth c ψ0 h0 F ψ H locs cells slots la hR hE hL hs hl hz hc hn T hT Y
  refine ⟨t, a, o, b1, b2, ?_⟩
  rcases b3 with ⟨⟨v, h', ψ', e1, e2, e3⟩, L⟩ | ⟨q, e0, E, ce, L, ⟨k, h', ψ', e1, e2, e3⟩, r⟩
  · exact Or.inl ⟨⟨v, h', ψ', e1, hq _ _ e2, e3⟩, L⟩
  · exact Or.inr ⟨q, e0, E, ce, L, ⟨k, h', ψ', e1, hq _ _ e2, e3⟩, r⟩
/-- forget locals, in any way -/
theorem J_ls {ls' : List (Option LV)} (hh : ∀ (i : Nat) (v : LV), ls'[i]? = some (some v) → ls[i]? = some (some v)) (kk : J X M pc ls' st h k n Q) : J X M pc ls st h k n Q := by
  simp only [J_def] at *
  intro p e R s m args below meth c ψ0 h0 F ψ H locs cells slots la hR hE hL hs hl hz hc hn
  refine kk p e R s m args below meth c ψ0 h0 F ψ H locs cells slots la hR hE ⟨hL.1, hL.2.1, fun i v hv => hL.2.2 i v (hh i v hv)⟩ hs (fun v hv => ?_) hz hc hn
  obtain ⟨i, hi⟩ := List.getElem?_of_mem hv
  exact hl v (List.mem_of_getElem? (hh i v hi))

theorem J_iconst {z : Int} {x : Int32} (d : decode (mC M) pc = .ok (.iconst z, 1)) (hv : Int32.ofInt z = x) (kk : J X M (pc + 1) ls (vI x :: st) h k n Q) : J X M pc ls st h k n Q := by
  simp only [J_def] at *
  intro p e R s m args below meth c ψ0 h0 F ψ H locs cells slots la hR hE hL hs hl hz hc hn
  exact lv_iconst F.1 F.2.1 d hv (kk p e R s m args below meth c ψ0 h0 F ψ H locs cells slots la hR hE hL (lv_cons trivial hs) hl hz hc hn)
theorem J_bipush {z : Int} {x : Int32} (d : decode (mC M) pc = .ok (.bipush z, 2)) (hv : (Int8.ofInt z).toInt32 = x) (kk : J X M (pc + 2) ls (vI x :: st) h k n Q) : J X M pc ls st h k n Q := by
  simp only [J_def] at *
  intro p e R s m args below meth c ψ0 h0 F ψ H locs cells slots la hR hE hL hs hl hz hc hn
  exact lv_bipush F.1 F.2.1 d hv (kk p e R s m args below meth c ψ0 h0 F ψ H locs cells slots la hR hE hL (lv_cons trivial hs) hl hz hc hn)
theorem J_sipush {z : Int} {x : Int32} (d : decode (mC M) pc = .ok (.sipush z, 3)) (hv : (Int16.ofInt z).toInt32 = x) (kk : J X M (pc + 3) ls (vI x :: st) h k n Q) : J X M pc ls st h k n Q := by
  simp only [J_def] at *
  intro p e R s m args below meth c ψ0 h0 F ψ H locs cells slots la hR hE hL hs hl hz hc hn
  exact lv_sipush F.1 F.2.1 d hv (kk p e R s m args below meth c ψ0 h0 F ψ H locs cells slots la hR hE hL (lv_cons trivial hs) hl hz hc hn)
theorem J_lconst {z : Fin 2} {x : Int64} (d : decode (mC M) pc = .ok (.lconst z, 1)) (hv : Int64.ofNat (z : Nat) = x) (kk : J X M (pc + 1) ls (vL x :: st) h k n Q) : J X M pc ls st h k n Q := by
  simp only [J_def] at *
  intro p e R s m args below meth c ψ0 h0 F ψ H locs cells slots la hR hE hL hs hl hz hc hn
  exact lv_lconst F.1 F.2.1 d hv (kk p e R s m args below meth c ψ0 h0 F ψ H locs cells slots la hR hE hL (lv_cons trivial hs) hl hz hc hn)
theorem J_null (d : decode (mC M) pc = .ok (.aconst_null, 1)) (kk : J X M (pc + 1) ls (vR none :: st) h k n Q) : J X M pc ls st h k n Q := by
  simp only [J_def] at *
  intro p e R s m args below meth c ψ0 h0 F ψ H locs cells slots la hR hE hL hs hl hz hc hn
  exact lv_null F.1 F.2.1 d (kk p e R s m args below meth c ψ0 h0 F ψ H locs cells slots la hR hE hL (lv_cons trivial hs) hl hz hc hn)
theorem J_iload_n {q : Fin 4} {i : Nat} {x : Int32} (d : decode (mC M) pc = .ok (.iload_n q, 1)) (hi : (q : Nat) = i) (hv : ls[i]? = some (some (vI x))) (kk : J X M (pc + 1) ls (vI x :: st) h k n Q) : J X M pc ls st h k n Q := by
  simp only [J_def] at *
  intro p e R s m args below meth c ψ0 h0 F ψ H locs cells slots la hR hE hL hs hl hz hc hn
  exact lv_iload_n F.1 F.2.1 d hi (hL.2.2 i _ hv) (kk p e R s m args below meth c ψ0 h0 F ψ H locs cells slots la hR hE hL (lv_cons trivial hs) hl hz hc hn)
theorem J_iload {i : Nat} {x : Int32} (d : decode (mC M) pc = .ok (.iload i, 2)) (hv : ls[i]? = some (some (vI x))) (kk : J X M (pc + 2) ls (vI x :: st) h k n Q) : J X M pc ls st h k n Q := by
  simp only [J_def] at *
  intro p e R s m args below meth c ψ0 h0 F ψ H locs cells slots la hR hE hL hs hl hz hc hn
  exact lv_iload F.1 F.2.1 d (hL.2.2 i _ hv) (kk p e R s m args below meth c ψ0 h0 F ψ H locs cells slots la hR hE hL (lv_cons trivial hs) hl hz hc hn)
theorem J_aload_n {q : Fin 4} {i : Nat} {r : Option Tg} (d : decode (mC M) pc = .ok (.aload_n q, 1)) (hi : (q : Nat) = i) (hv : ls[i]? = some (some (vR r))) (kk : J X M (pc + 1) ls (vR r :: st) h k n Q) : J X M pc ls st h k n Q := by
  simp only [J_def] at *
  intro p e R s m args below meth c ψ0 h0 F ψ H locs cells slots la hR hE hL hs hl hz hc hn
  have h1 := hL.2.2 i _ hv
  have h2 := hl _ (List.mem_of_getElem? hv)
  have h3 := kk p e R s m args below meth c ψ0 h0 F ψ H locs cells slots la hR hE hL (lv_cons h2 hs) hl hz hc hn
  cases r with
  | none => exact lv_aload_nN F.1 F.2.1 d hi h1 h3
  | some t => exact lv_aload_n F.1 F.2.1 d hi h1 h3
theorem J_aload {i : Nat} {r : Option Tg} (d : decode (mC M) pc = .ok (.aload i, 2)) (hv : ls[i]? = some (some (vR r))) (kk : J X M (pc + 2) ls (vR r :: st) h k n Q) : J X M pc ls st h k n Q := by
  simp only [J_def] at *
  intro p e R s m args below meth c ψ0 h0 F ψ H locs cells slots la hR hE hL hs hl hz hc hn
  have h1 := hL.2.2 i _ hv
  have h2 := hl _ (List.mem_of_getElem? hv)
  have h3 := kk p e R s m args below meth c ψ0 h0 F ψ H locs cells slots la hR hE hL (lv_cons h2 hs) hl hz hc hn
  cases r with
  | none => exact lv_aloadN F.1 F.2.1 d h1 h3
  | some t => exact lv_aload F.1 F.2.1 d h1 h3
theorem J_istore_n {q : Fin 4} {i : Nat} {x : Int32} (d : decode (mC M) pc = .ok (.istore_n q, 1)) (hi : (q : Nat) = i) (hi2 : i < mL M) (kk : J X M (pc + 1) (ls.set i (some (vI x))) st h k n Q) (hp : nlg ls i = true := by rfl) : J X M pc ls (vI x :: st) h k n Q := by
  simp only [J_def] at *
  intro p e R s m args below meth c ψ0 h0 F ψ H locs cells slots la hR hE hL hs hl hz hc hn
  exact lv_istore_n F.1 F.2.1 d hi (LRel_has hL) hi2 rfl (fun la hq => kk p e R s m args below meth c ψ0 h0 F ψ H locs cells slots la hR hE (LRel_set (v := vI x) hp hL hq) (fun v hv => hs v (List.mem_cons_of_mem _ hv)) (lv_set_in (v := vI x) trivial hl) hz hc hn)
theorem J_istore {i : Nat} {x : Int32} (d : decode (mC M) pc = .ok (.istore i, 2)) (hi2 : i < mL M) (kk : J X M (pc + 2) (ls.set i (some (vI x))) st h k n Q) (hp : nlg ls i = true := by rfl) : J X M pc ls (vI x :: st) h k n Q := by
  simp only [J_def] at *
  intro p e R s m args below meth c ψ0 h0 F ψ H locs cells slots la hR hE hL hs hl hz hc hn
  exact lv_istore F.1 F.2.1 d (LRel_has hL) hi2 rfl (fun la hq => kk p e R s m args below meth c ψ0 h0 F ψ H locs cells slots la hR hE (LRel_set (v := vI x) hp hL hq) (fun v hv => hs v (List.mem_cons_of_mem _ hv)) (lv_set_in (v := vI x) trivial hl) hz hc hn)
theorem J_astore_n {q : Fin 4} {i : Nat} {r : Option Tg} (d : decode (mC M) pc = .ok (.astore_n q, 1)) (hi : (q : Nat) = i) (hi2 : i < mL M) (kk : J X M (pc + 1) (ls.set i (some (vR r))) st h k n Q) (hp : nlg ls i = true := by rfl) : J X M pc ls (vR r :: st) h k n Q := by
  simp only [J_def] at *
  intro p e R s m args below meth c ψ0 h0 F ψ H locs cells slots la hR hE hL hs hl hz hc hn
  have h2 := hs _ List.mem_cons_self
  have hs' := fun v hv => hs v (List.mem_cons_of_mem _ hv)
  cases r with
  | none => exact lv_astore_nN F.1 F.2.1 d hi (LRel_has hL) hi2 rfl (fun la hq => kk p e R s m args below meth c ψ0 h0 F ψ H locs cells slots la hR hE (LRel_set (v := vR none) hp hL hq) hs' (lv_set_in h2 hl) hz hc hn)
  | some t => exact lv_astore_n F.1 F.2.1 d hi (LRel_has hL) hi2 rfl (fun la hq => kk p e R s m args below meth c ψ0 h0 F ψ H locs cells slots la hR hE (LRel_set (v := vR (some t)) hp hL hq) hs' (lv_set_in h2 hl) hz hc hn)
theorem J_astore {i : Nat} {r : Option Tg} (d : decode (mC M) pc = .ok (.astore i, 2)) (hi2 : i < mL M) (kk : J X M (pc + 2) (ls.set i (some (vR r))) st h k n Q) (hp : nlg ls i = true := by rfl) : J X M pc ls (vR r :: st) h k n Q := by
  simp only [J_def] at *
  intro p e R s m args below meth c ψ0 h0 F ψ H locs cells slots la hR hE hL hs hl hz hc hn
  have h2 := hs _ List.mem_cons_self
  have hs' := fun v hv => hs v (List.mem_cons_of_mem _ hv)
  cases r with
  | none => exact lv_astoreN F.1 F.2.1 d (LRel_has hL) hi2 rfl (fun la hq => kk p e R s m args below meth c ψ0 h0 F ψ H locs cells slots la hR hE (LRel_set (v := vR none) hp hL hq) hs' (lv_set_in h2 hl) hz hc hn)
  | some t => exact lv_astore F.1 F.2.1 d (LRel_has hL) hi2 rfl (fun la hq => kk p e R s m args below meth c ψ0 h0 F ψ H locs cells slots la hR hE (LRel_set (v := vR (some t)) hp hL hq) hs' (lv_set_in h2 hl) hz hc hn)
theorem J_iinc {i : Nat} {z : Int} {x y : Int32} (d : decode (mC M) pc = .ok (.iinc i z, 3)) (hv : ls[i]? = some (some (vI x))) (hy : x + Int32.ofInt z = y) (hi2 : i < mL M) (kk : J X M (pc + 3) (ls.set i (some (vI y))) st h k n Q) (hp : nlg ls i = true := by rfl) : J X M pc ls st h k n Q := by
  simp only [J_def] at *
  intro p e R s m args below meth c ψ0 h0 F ψ H locs cells slots la hR hE hL hs hl hz hc hn
  have hm : (i, ph ψ (vI x)) ∈ toL ψ ls := toL_in hv
  obtain ⟨q, hq⟩ := List.getElem?_of_mem hm
  exact lv_iinc F.1 F.2.1 d (LRel_has hL) hq hy hi2 rfl (fun la hq => kk p e R s m args below meth c ψ0 h0 F ψ H locs cells slots la hR hE (LRel_set (v := vI y) hp hL hq) hs (lv_set_in (v := vI y) trivial hl) hz hc hn)
theorem J_iadd {x y : Int32} (d : decode (mC M) pc = .ok (.iadd, 1)) (kk : J X M (pc + 1) ls (vI (x + y) :: st) h k n Q) : J X M pc ls (vI y :: vI x :: st) h k n Q := by
  simp only [J_def] at *
  intro p e R s m args below meth c ψ0 h0 F ψ H locs cells slots la hR hE hL hs hl hz hc hn
  exact lv_iadd F.1 F.2.1 d (kk p e R s m args below meth c ψ0 h0 F ψ H locs cells slots la hR hE hL (lv_cons trivial (fun v hv => hs v (List.mem_cons_of_mem _ (List.mem_cons_of_mem _ hv)))) hl hz hc hn)
theorem J_isub {x y : Int32} (d : decode (mC M) pc = .ok (.isub, 1)) (kk : J X M (pc + 1) ls (vI (x - y) :: st) h k n Q) : J X M pc ls (vI y :: vI x :: st) h k n Q := by
  simp only [J_def] at *
  intro p e R s m args below meth c ψ0 h0 F ψ H locs cells slots la hR hE hL hs hl hz hc hn
  exact lv_isub F.1 F.2.1 d (kk p e R s m args below meth c ψ0 h0 F ψ H locs cells slots la hR hE hL (lv_cons trivial (fun v hv => hs v (List.mem_cons_of_mem _ (List.mem_cons_of_mem _ hv)))) hl hz hc hn)
theorem J_imul {x y : Int32} (d : decode (mC M) pc = .ok (.imul, 1)) (kk : J X M (pc + 1) ls (vI (x * y) :: st) h k n Q) : J X M pc ls (vI y :: vI x :: st) h k n Q := by
  simp only [J_def] at *
  intro p e R s m args below meth c ψ0 h0 F ψ H locs cells slots la hR hE hL hs hl hz hc hn
  exact lv_imul F.1 F.2.1 d (kk p e R s m args below meth c ψ0 h0 F ψ H locs cells slots la hR hE hL (lv_cons trivial (fun v hv => hs v (List.mem_cons_of_mem _ (List.mem_cons_of_mem _ hv)))) hl hz hc hn)
theorem J_idiv {x y : Int32} (d : decode (mC M) pc = .ok (.idiv, 1)) (hne : ¬ y = 0) (kk : J X M (pc + 1) ls (vI (x / y) :: st) h k n Q) : J X M pc ls (vI y :: vI x :: st) h k n Q := by
  simp only [J_def] at *
  intro p e R s m args below meth c ψ0 h0 F ψ H locs cells slots la hR hE hL hs hl hz hc hn
  exact lv_idiv F.1 F.2.1 d hne (kk p e R s m args below meth c ψ0 h0 F ψ H locs cells slots la hR hE hL (lv_cons trivial (fun v hv => hs v (List.mem_cons_of_mem _ (List.mem_cons_of_mem _ hv)))) hl hz hc hn)
theorem J_irem {x y : Int32} (d : decode (mC M) pc = .ok (.irem, 1)) (hne : ¬ y = 0) (kk : J X M (pc + 1) ls (vI (x - x / y * y) :: st) h k n Q) : J X M pc ls (vI y :: vI x :: st) h k n Q := by
  simp only [J_def] at *
  intro p e R s m args below meth c ψ0 h0 F ψ H locs cells slots la hR hE hL hs hl hz hc hn
  exact lv_irem F.1 F.2.1 d hne (kk p e R s m args below meth c ψ0 h0 F ψ H locs cells slots la hR hE hL (lv_cons trivial (fun v hv => hs v (List.mem_cons_of_mem _ (List.mem_cons_of_mem _ hv)))) hl hz hc hn)
theorem J_ishl {x y : Int32} (d : decode (mC M) pc = .ok (.ishl, 1)) (kk : J X M (pc + 1) ls (vI (x <<< (y &&& 31)) :: st) h k n Q) : J X M pc ls (vI y :: vI x :: st) h k n Q := by
  simp only [J_def] at *
  intro p e R s m args below meth c ψ0 h0 F ψ H locs cells slots la hR hE hL hs hl hz hc hn
  exact lv_ishl F.1 F.2.1 d (kk p e R s m args below meth c ψ0 h0 F ψ H locs cells slots la hR hE hL (lv_cons trivial (fun v hv => hs v (List.mem_cons_of_mem _ (List.mem_cons_of_mem _ hv)))) hl hz hc hn)
theorem J_ishr {x y : Int32} (d : decode (mC M) pc = .ok (.ishr, 1)) (kk : J X M (pc + 1) ls (vI (x >>> (y &&& 31)) :: st) h k n Q) : J X M pc ls (vI y :: vI x :: st) h k n Q := by
  simp only [J_def] at *
  intro p e R s m args below meth c ψ0 h0 F ψ H locs cells slots la hR hE hL hs hl hz hc hn
  exact lv_ishr F.1 F.2.1 d (kk p e R s m args below meth c ψ0 h0 F ψ H locs cells slots la hR hE hL (lv_cons trivial (fun v hv => hs v (List.mem_cons_of_mem _ (List.mem_cons_of_mem _ hv)))) hl hz hc hn)
theorem J_iand {x y : Int32} (d : decode (mC M) pc = .ok (.iand, 1)) (kk : J X M (pc + 1) ls (vI (x &&& y) :: st) h k n Q) : J X M pc ls (vI y :: vI x :: st) h k n Q := by
  simp only [J_def] at *
  intro p e R s m args below meth c ψ0 h0 F ψ H locs cells slots la hR hE hL hs hl hz hc hn
  exact lv_iand F.1 F.2.1 d (kk p e R s m args below meth c ψ0 h0 F ψ H locs cells slots la hR hE hL (lv_cons trivial (fun v hv => hs v (List.mem_cons_of_mem _ (List.mem_cons_of_mem _ hv)))) hl hz hc hn)
theorem J_ior {x y : Int32} (d : decode (mC M) pc = .ok (.ior, 1)) (kk : J X M (pc + 1) ls (vI (x ||| y) :: st) h k n Q) : J X M pc ls (vI y :: vI x :: st) h k n Q := by
  simp only [J_def] at *
  intro p e R s m args below meth c ψ0 h0 F ψ H locs cells slots la hR hE hL hs hl hz hc hn
  exact lv_ior F.1 F.2.1 d (kk p e R s m args below meth c ψ0 h0 F ψ H locs cells slots la hR hE hL (lv_cons trivial (fun v hv => hs v (List.mem_cons_of_mem _ (List.mem_cons_of_mem _ hv)))) hl hz hc hn)
theorem J_ixor {x y : Int32} (d : decode (mC M) pc = .ok (.ixor, 1)) (kk : J X M (pc + 1) ls (vI (x ^^^ y) :: st) h k n Q) : J X M pc ls (vI y :: vI x :: st) h k n Q := by
  simp only [J_def] at *
  intro p e R s m args below meth c ψ0 h0 F ψ H locs cells slots la hR hE hL hs hl hz hc hn
  exact lv_ixor F.1 F.2.1 d (kk p e R s m args below meth c ψ0 h0 F ψ H locs cells slots la hR hE hL (lv_cons trivial (fun v hv => hs v (List.mem_cons_of_mem _ (List.mem_cons_of_mem _ hv)))) hl hz hc hn)
theorem J_i2l {x : Int32} (d : decode (mC M) pc = .ok (.i2l, 1)) (kk : J X M (pc + 1) ls (vL x.toInt64 :: st) h k n Q) : J X M pc ls (vI x :: st) h k n Q := by
  simp only [J_def] at *
  intro p e R s m args below meth c ψ0 h0 F ψ H locs cells slots la hR hE hL hs hl hz hc hn
  exact lv_i2l F.1 F.2.1 d rfl (kk p e R s m args below meth c ψ0 h0 F ψ H locs cells slots la hR hE hL (lv_cons trivial (fun v hv => hs v (List.mem_cons_of_mem _ hv))) hl hz hc hn)
theorem J_lcmp {x y : Int64} (d : decode (mC M) pc = .ok (.lcmp, 1)) (kk : J X M (pc + 1) ls (vI (lg_cmp x y) :: st) h k n Q) : J X M pc ls (vL y :: vL x :: st) h k n Q := by
  simp only [J_def] at *
  intro p e R s m args below meth c ψ0 h0 F ψ H locs cells slots la hR hE hL hs hl hz hc hn
  exact W.lcmp F.1 F.2.1 d (kk p e R s m args below meth c ψ0 h0 F ψ H locs cells slots la hR hE hL (lv_cons trivial (fun v hv => hs v (List.mem_cons_of_mem _ (List.mem_cons_of_mem _ hv)))) hl hz hc hn)
/-- a number gets a simpler form -/
theorem J_eq {x y : Int32} (e : x = y) (kk : J X M pc ls (vI y :: st) h k n Q) : J X M pc ls (vI x :: st) h k n Q := e ▸ kk
theorem J_dup {v : LV} (d : decode (mC M) pc = .ok (.dup, 1)) (hv : c1 v = true) (kk : J X M (pc + 1) ls (v :: v :: st) h k n Q) : J X M pc ls (v :: st) h k n Q := by
  simp only [J_def] at *
  intro p e R s m args below meth c ψ0 h0 F ψ H locs cells slots la hR hE hL hs hl hz hc hn
  exact lv_dup F.1 F.2.1 d (c1_cat hv) (kk p e R s m args below meth c ψ0 h0 F ψ H locs cells slots la hR hE hL (lv_cons (hs _ List.mem_cons_self) hs) hl hz hc hn)
theorem J_pop {v : LV} (d : decode (mC M) pc = .ok (.pop, 1)) (hv : c1 v = true) (kk : J X M (pc + 1) ls st h k n Q) : J X M pc ls (v :: st) h k n Q := by
  simp only [J_def] at *
  intro p e R s m args below meth c ψ0 h0 F ψ H locs cells slots la hR hE hL hs hl hz hc hn
  exact lv_pop F.1 F.2.1 d (c1_cat hv) (kk p e R s m args below meth c ψ0 h0 F ψ H locs cells slots la hR hE hL (fun v hv => hs v (List.mem_cons_of_mem _ hv)) hl hz hc hn)
theorem J_dup2 {v w : LV} (d : decode (mC M) pc = .ok (.dup2, 1)) (hv : c1 v = true) (hw : c1 w = true) (kk : J X M (pc + 1) ls (v :: w :: v :: w :: st) h k n Q) : J X M pc ls (v :: w :: st) h k n Q := by
  simp only [J_def] at *
  intro p e R s m args below meth c ψ0 h0 F ψ H locs cells slots la hR hE hL hs hl hz hc hn
  exact lv_dup2_11 F.1 F.2.1 d (c1_cat hv) (c1_cat hw) (kk p e R s m args below meth c ψ0 h0 F ψ H locs cells slots la hR hE hL (lv_cons (hs _ List.mem_cons_self) (lv_cons (hs _ (List.mem_cons_of_mem _ List.mem_cons_self)) hs)) hl hz hc hn)
theorem J_goto {off : Int} {tgt : Nat} (d : decode (mC M) pc = .ok (.goto off, 3)) (ht : (pc : Int) + off = (tgt : Int)) (kk : J X M tgt ls st h k n Q) : J X M pc ls st h k n Q := by
  simp only [J_def] at *
  intro p e R s m args below meth c ψ0 h0 F ψ H locs cells slots la hR hE hL hs hl hz hc hn
  exact lv_goto F.1 F.2.1 d ht (kk p e R s m args below meth c ψ0 h0 F ψ H locs cells slots la hR hE hL hs hl hz hc hn)
theorem J_if_eq {x : Int32} {off : Int} {tgt : Nat} (d : decode (mC M) pc = .ok (.ifCond .eq off, 3)) (ht : (pc : Int) + off = (tgt : Int)) (kt : x = 0 → J X M tgt ls st h k n Q) (kf : ¬ x = 0 → J X M (pc + 3) ls st h k n Q) : J X M pc ls (vI x :: st) h k n Q := by
  simp only [J_def] at *
  intro p e R s m args below meth c ψ0 h0 F ψ H locs cells slots la hR hE hL hs hl hz hc hn
  exact lv_if_eq F.1 F.2.1 d ht (fun hq => (kt hq) p e R s m args below meth c ψ0 h0 F ψ H locs cells slots la hR hE hL (fun v hv => hs v (List.mem_cons_of_mem _ hv)) hl hz hc hn) (fun hq => (kf hq) p e R s m args below meth c ψ0 h0 F ψ H locs cells slots la hR hE hL (fun v hv => hs v (List.mem_cons_of_mem _ hv)) hl hz hc hn)
theorem J_ic_eq {x y : Int32} {off : Int} {tgt : Nat} (d : decode (mC M) pc = .ok (.if_icmp .eq off, 3)) (ht : (pc : Int) + off = (tgt : Int)) (kt : x = y → J X M tgt ls st h k n Q) (kf : ¬ x = y → J X M (pc + 3) ls st h k n Q) : J X M pc ls (vI y :: vI x :: st) h k n Q := by
  simp only [J_def] at *
  intro p e R s m args below meth c ψ0 h0 F ψ H locs cells slots la hR hE hL hs hl hz hc hn
  exact lv_icmp_eq F.1 F.2.1 d ht (fun hq => (kt hq) p e R s m args below meth c ψ0 h0 F ψ H locs cells slots la hR hE hL (fun v hv => hs v (List.mem_cons_of_mem _ (List.mem_cons_of_mem _ hv))) hl hz hc hn) (fun hq => (kf hq) p e R s m args below meth c ψ0 h0 F ψ H locs cells slots la hR hE hL (fun v hv => hs v (List.mem_cons_of_mem _ (List.mem_cons_of_mem _ hv))) hl hz hc hn)
theorem J_if_ne {x : Int32} {off : Int} {tgt : Nat} (d : decode (mC M) pc = .ok (.ifCond .ne off, 3)) (ht : (pc : Int) + off = (tgt : Int)) (kt : ¬ x = 0 → J X M tgt ls st h k n Q) (kf : x = 0 → J X M (pc + 3) ls st h k n Q) : J X M pc ls (vI x :: st) h k n Q := by
  simp only [J_def] at *
  intro p e R s m args below meth c ψ0 h0 F ψ H locs cells slots la hR hE hL hs hl hz hc hn
  exact lv_if_ne F.1 F.2.1 d ht (fun hq => (kt hq) p e R s m args below meth c ψ0 h0 F ψ H locs cells slots la hR hE hL (fun v hv => hs v (List.mem_cons_of_mem _ hv)) hl hz hc hn) (fun hq => (kf hq) p e R s m args below meth c ψ0 h0 F ψ H locs cells slots la hR hE hL (fun v hv => hs v (List.mem_cons_of_mem _ hv)) hl hz hc hn)
theorem J_ic_ne {x y : Int32} {off : Int} {tgt : Nat} (d : decode (mC M) pc = .ok (.if_icmp .ne off, 3)) (ht : (pc : Int) + off = (tgt : Int)) (kt : ¬ x = y → J X M tgt ls st h k n Q) (kf : x = y → J X M (pc + 3) ls st h k n Q) : J X M pc ls (vI y :: vI x :: st) h k n Q := by
  simp only [J_def] at *
  intro p e R s m args below meth c ψ0 h0 F ψ H locs cells slots la hR hE hL hs hl hz hc hn
  exact lv_icmp_ne F.1 F.2.1 d ht (fun hq => (kt hq) p e R s m args below meth c ψ0 h0 F ψ H locs cells slots la hR hE hL (fun v hv => hs v (List.mem_cons_of_mem _ (List.mem_cons_of_mem _ hv))) hl hz hc hn) (fun hq => (kf hq) p e R s m args below meth c ψ0 h0 F ψ H locs cells slots la hR hE hL (fun v hv => hs v (List.mem_cons_of_mem _ (List.mem_cons_of_mem _ hv))) hl hz hc hn)
theorem J_if_lt {x : Int32} {off : Int} {tgt : Nat} (d : decode (mC M) pc = .ok (.ifCond .lt off, 3)) (ht : (pc : Int) + off = (tgt : Int)) (kt : x < 0 → J X M tgt ls st h k n Q) (kf : ¬ x < 0 → J X M (pc + 3) ls st h k n Q) : J X M pc ls (vI x :: st) h k n Q := by
  simp only [J_def] at *
  intro p e R s m args below meth c ψ0 h0 F ψ H locs cells slots la hR hE hL hs hl hz hc hn
  exact lv_if_lt F.1 F.2.1 d ht (fun hq => (kt hq) p e R s m args below meth c ψ0 h0 F ψ H locs cells slots la hR hE hL (fun v hv => hs v (List.mem_cons_of_mem _ hv)) hl hz hc hn) (fun hq => (kf hq) p e R s m args below meth c ψ0 h0 F ψ H locs cells slots la hR hE hL (fun v hv => hs v (List.mem_cons_of_mem _ hv)) hl hz hc hn)
theorem J_ic_lt {x y : Int32} {off : Int} {tgt : Nat} (d : decode (mC M) pc = .ok (.if_icmp .lt off, 3)) (ht : (pc : Int) + off = (tgt : Int)) (kt : x < y → J X M tgt ls st h k n Q) (kf : ¬ x < y → J X M (pc + 3) ls st h k n Q) : J X M pc ls (vI y :: vI x :: st) h k n Q := by
  simp only [J_def] at *
  intro p e R s m args below meth c ψ0 h0 F ψ H locs cells slots la hR hE hL hs hl hz hc hn
  exact lv_icmp_lt F.1 F.2.1 d ht (fun hq => (kt hq) p e R s m args below meth c ψ0 h0 F ψ H locs cells slots la hR hE hL (fun v hv => hs v (List.mem_cons_of_mem _ (List.mem_cons_of_mem _ hv))) hl hz hc hn) (fun hq => (kf hq) p e R s m args below meth c ψ0 h0 F ψ H locs cells slots la hR hE hL (fun v hv => hs v (List.mem_cons_of_mem _ (List.mem_cons_of_mem _ hv))) hl hz hc hn)
theorem J_if_ge {x : Int32} {off : Int} {tgt : Nat} (d : decode (mC M) pc = .ok (.ifCond .ge off, 3)) (ht : (pc : Int) + off = (tgt : Int)) (kt : 0 ≤ x → J X M tgt ls st h k n Q) (kf : ¬ 0 ≤ x → J X M (pc + 3) ls st h k n Q) : J X M pc ls (vI x :: st) h k n Q := by
  simp only [J_def] at *
  intro p e R s m args below meth c ψ0 h0 F ψ H locs cells slots la hR hE hL hs hl hz hc hn
  exact lv_if_ge F.1 F.2.1 d ht (fun hq => (kt hq) p e R s m args below meth c ψ0 h0 F ψ H locs cells slots la hR hE hL (fun v hv => hs v (List.mem_cons_of_mem _ hv)) hl hz hc hn) (fun hq => (kf hq) p e R s m args below meth c ψ0 h0 F ψ H locs cells slots la hR hE hL (fun v hv => hs v (List.mem_cons_of_mem _ hv)) hl hz hc hn)
theorem J_ic_ge {x y : Int32} {off : Int} {tgt : Nat} (d : decode (mC M) pc = .ok (.if_icmp .ge off, 3)) (ht : (pc : Int) + off = (tgt : Int)) (kt : y ≤ x → J X M tgt ls st h k n Q) (kf : ¬ y ≤ x → J X M (pc + 3) ls st h k n Q) : J X M pc ls (vI y :: vI x :: st) h k n Q := by
  simp only [J_def] at *
  intro p e R s m args below meth c ψ0 h0 F ψ H locs cells slots la hR hE hL hs hl hz hc hn
  exact lv_icmp_ge F.1 F.2.1 d ht (fun hq => (kt hq) p e R s m args below meth c ψ0 h0 F ψ H locs cells slots la hR hE hL (fun v hv => hs v (List.mem_cons_of_mem _ (List.mem_cons_of_mem _ hv))) hl hz hc hn) (fun hq => (kf hq) p e R s m args below meth c ψ0 h0 F ψ H locs cells slots la hR hE hL (fun v hv => hs v (List.mem_cons_of_mem _ (List.mem_cons_of_mem _ hv))) hl hz hc hn)
theorem J_if_gt {x : Int32} {off : Int} {tgt : Nat} (d : decode (mC M) pc = .ok (.ifCond .gt off, 3)) (ht : (pc : Int) + off = (tgt : Int)) (kt : 0 < x → J X M tgt ls st h k n Q) (kf : ¬ 0 < x → J X M (pc + 3) ls st h k n Q) : J X M pc ls (vI x :: st) h k n Q := by
  simp only [J_def] at *
  intro p e R s m args below meth c ψ0 h0 F ψ H locs cells slots la hR hE hL hs hl hz hc hn
  exact lv_if_gt F.1 F.2.1 d ht (fun hq => (kt hq) p e R s m args below meth c ψ0 h0 F ψ H locs cells slots la hR hE hL (fun v hv => hs v (List.mem_cons_of_mem _ hv)) hl hz hc hn) (fun hq => (kf hq) p e R s m args below meth c ψ0 h0 F ψ H locs cells slots la hR hE hL (fun v hv => hs v (List.mem_cons_of_mem _ hv)) hl hz hc hn)
theorem J_ic_gt {x y : Int32} {off : Int} {tgt : Nat} (d : decode (mC M) pc = .ok (.if_icmp .gt off, 3)) (ht : (pc : Int) + off = (tgt : Int)) (kt : y < x → J X M tgt ls st h k n Q) (kf : ¬ y < x → J X M (pc + 3) ls st h k n Q) : J X M pc ls (vI y :: vI x :: st) h k n Q := by
  simp only [J_def] at *
  intro p e R s m args below meth c ψ0 h0 F ψ H locs cells slots la hR hE hL hs hl hz hc hn
  exact lv_icmp_gt F.1 F.2.1 d ht (fun hq => (kt hq) p e R s m args below meth c ψ0 h0 F ψ H locs cells slots la hR hE hL (fun v hv => hs v (List.mem_cons_of_mem _ (List.mem_cons_of_mem _ hv))) hl hz hc hn) (fun hq => (kf hq) p e R s m args below meth c ψ0 h0 F ψ H locs cells slots la hR hE hL (fun v hv => hs v (List.mem_cons_of_mem _ (List.mem_cons_of_mem _ hv))) hl hz hc hn)
theorem J_if_le {x : Int32} {off : Int} {tgt : Nat} (d : decode (mC M) pc = .ok (.ifCond .le off, 3)) (ht : (pc : Int) + off = (tgt : Int)) (kt : x ≤ 0 → J X M tgt ls st h k n Q) (kf : ¬ x ≤ 0 → J X M (pc + 3) ls st h k n Q) : J X M pc ls (vI x :: st) h k n Q := by
  simp only [J_def] at *
  intro p e R s m args below meth c ψ0 h0 F ψ H locs cells slots la hR hE hL hs hl hz hc hn
  exact lv_if_le F.1 F.2.1 d ht (fun hq => (kt hq) p e R s m args below meth c ψ0 h0 F ψ H locs cells slots la hR hE hL (fun v hv => hs v (List.mem_cons_of_mem _ hv)) hl hz hc hn) (fun hq => (kf hq) p e R s m args below meth c ψ0 h0 F ψ H locs cells slots la hR hE hL (fun v hv => hs v (List.mem_cons_of_mem _ hv)) hl hz hc hn)
theorem J_ic_le {x y : Int32} {off : Int} {tgt : Nat} (d : decode (mC M) pc = .ok (.if_icmp .le off, 3)) (ht : (pc : Int) + off = (tgt : Int)) (kt : x ≤ y → J X M tgt ls st h k n Q) (kf : ¬ x ≤ y → J X M (pc + 3) ls st h k n Q) : J X M pc ls (vI y :: vI x :: st) h k n Q := by
  simp only [J_def] at *
  intro p e R s m args below meth c ψ0 h0 F ψ H locs cells slots la hR hE hL hs hl hz hc hn
  exact lv_icmp_le F.1 F.2.1 d ht (fun hq => (kt hq) p e R s m args below meth c ψ0 h0 F ψ H locs cells slots la hR hE hL (fun v hv => hs v (List.mem_cons_of_mem _ (List.mem_cons_of_mem _ hv))) hl hz hc hn) (fun hq => (kf hq) p e R s m args below meth c ψ0 h0 F ψ H locs cells slots la hR hE hL (fun v hv => hs v (List.mem_cons_of_mem _ (List.mem_cons_of_mem _ hv))) hl hz hc hn)
theorem J_ifnull {r : Option Tg} {off : Int} {tgt : Nat} (d : decode (mC M) pc = .ok (.ifnull off, 3)) (ht : (pc : Int) + off = (tgt : Int)) (kt : r = none → J X M tgt ls st h k n Q) (kf : ∀ t, r = some t → J X M (pc + 3) ls st h k n Q) : J X M pc ls (vR r :: st) h k n Q := by
  simp only [J_def] at *
  intro p e R s m args below meth c ψ0 h0 F ψ H locs cells slots la hR hE hL hs hl hz hc hn
  cases r with
  | none => exact lv_ifnullN F.1 F.2.1 d ht ((kt rfl) p e R s m args below meth c ψ0 h0 F ψ H locs cells slots la hR hE hL (fun v hv => hs v (List.mem_cons_of_mem _ hv)) hl hz hc hn)
  | some t => exact lv_ifnull F.1 F.2.1 d ((kf t rfl) p e R s m args below meth c ψ0 h0 F ψ H locs cells slots la hR hE hL (fun v hv => hs v (List.mem_cons_of_mem _ hv)) hl hz hc hn)
theorem J_ifnonnull {r : Option Tg} {off : Int} {tgt : Nat} (d : decode (mC M) pc = .ok (.ifnonnull off, 3)) (ht : (pc : Int) + off = (tgt : Int)) (kt : ∀ t, r = some t → J X M tgt ls st h k n Q) (kf : r = none → J X M (pc + 3) ls st h k n Q) : J X M pc ls (vR r :: st) h k n Q := by
  simp only [J_def] at *
  intro p e R s m args below meth c ψ0 h0 F ψ H locs cells slots la hR hE hL hs hl hz hc hn
  cases r with
  | none => exact lv_ifnonnullN F.1 F.2.1 d ((kf rfl) p e R s m args below meth c ψ0 h0 F ψ H locs cells slots la hR hE hL (fun v hv => hs v (List.mem_cons_of_mem _ hv)) hl hz hc hn)
  | some t => exact lv_ifnonnull F.1 F.2.1 d ht ((kt t rfl) p e R s m args below meth c ψ0 h0 F ψ H locs cells slots la hR hE hL (fun v hv => hs v (List.mem_cons_of_mem _ hv)) hl hz hc hn)
theorem phR_inj {X : GX} {ψ : Tg → Nat} {h : LH} {H : Heap} (hR : HR X ψ h H) {r r' : Option Tg} (h1 : Lv h (vR r)) (h2 : Lv h (vR r')) : r.map ψ = r'.map ψ ↔ r = r' := by
  cases r <;> cases r' <;> simp
  exact ⟨fun e => hR.2.1 _ _ h1 h2 e, fun e => by rw [e]⟩
theorem J_acne {r r' : Option Tg} {off : Int} {tgt : Nat} (d : decode (mC M) pc = .ok (.if_acmp .ne off, 3)) (ht : (pc : Int) + off = (tgt : Int)) (kt : ¬ r = r' → J X M tgt ls st h k n Q) (kf : r = r' → J X M (pc + 3) ls st h k n Q) : J X M pc ls (vR r' :: vR r :: st) h k n Q := by
  simp only [J_def] at *
  intro p e R s m args below meth c ψ0 h0 F ψ H locs cells slots la hR hE hL hs hl hz hc hn
  have hi := phR_inj hR (hs _ (List.mem_cons_of_mem _ List.mem_cons_self)) (hs _ List.mem_cons_self)
  exact lv_acmp_ne F.1 F.2.1 d ht (fun hq => (kt (fun e => hq (hi.mpr e))) p e R s m args below meth c ψ0 h0 F ψ H locs cells slots la hR hE hL (fun v hv => hs v (List.mem_cons_of_mem _ (List.mem_cons_of_mem _ hv))) hl hz hc hn) (fun hq => (kf (hi.mp hq)) p e R s m args below meth c ψ0 h0 F ψ H locs cells slots la hR hE hL (fun v hv => hs v (List.mem_cons_of_mem _ (List.mem_cons_of_mem _ hv))) hl hz hc hn)
theorem J_swOut {dflt lo hi : Int} {offs : Array Int} {len : Nat} {x : Int32} {tgt : Nat} (d : decode (mC M) pc = .ok (.tableswitch dflt lo hi offs, len)) (hx : x.toInt < lo ∨ hi < x.toInt) (ht : (pc : Int) + dflt = (tgt : Int)) (kk : J X M tgt ls st h k n Q) : J X M pc ls (vI x :: st) h k n Q := by
  simp only [J_def] at *
  intro p e R s m args below meth c ψ0 h0 F ψ H locs cells slots la hR hE hL hs hl hz hc hn
  exact lv_tableOut F.1 F.2.1 d hx ht (kk p e R s m args below meth c ψ0 h0 F ψ H locs cells slots la hR hE hL (fun v hv => hs v (List.mem_cons_of_mem _ hv)) hl hz hc hn)
theorem J_swIn {dflt lo hi : Int} {offs : Array Int} {len : Nat} {x : Int32} {off : Int} {tgt : Nat} (d : decode (mC M) pc = .ok (.tableswitch dflt lo hi offs, len)) (h1 : ¬ x.toInt < lo) (h2 : ¬ hi < x.toInt) (ho : offs[(x.toInt - lo).toNat]? = some off) (ht : (pc : Int) + off = (tgt : Int)) (kk : J X M tgt ls st h k n Q) : J X M pc ls (vI x :: st) h k n Q := by
  simp only [J_def] at *
  intro p e R s m args below meth c ψ0 h0 F ψ H locs cells slots la hR hE hL hs hl hz hc hn
  exact lv_tableIn F.1 F.2.1 d h1 h2 ho ht (kk p e R s m args below meth c ψ0 h0 F ψ H locs cells slots la hR hE hL (fun v hv => hs v (List.mem_cons_of_mem _ hv)) hl hz hc hn)
theorem J_ladd {x y : Int64} (d : decode (mC M) pc = .ok (.ladd, 1)) (kk : J X M (pc + 1) ls (vL (x + y) :: st) h k n Q) : J X M pc ls (vL y :: vL x :: st) h k n Q := by
  simp only [J_def] at *
  intro p e R s m args below meth c ψ0 h0 F ψ H locs cells slots la hR hE hL hs hl hz hc hn
  exact lv_ladd F.1 F.2.1 d (kk p e R s m args below meth c ψ0 h0 F ψ H locs cells slots la hR hE hL (lv_cons trivial (fun v hv => hs v (List.mem_cons_of_mem _ (List.mem_cons_of_mem _ hv)))) hl hz hc hn)
theorem J_lmul {x y : Int64} (d : decode (mC M) pc = .ok (.lmul, 1)) (kk : J X M (pc + 1) ls (vL (x * y) :: st) h k n Q) : J X M pc ls (vL y :: vL x :: st) h k n Q := by
  simp only [J_def] at *
  intro p e R s m args below meth c ψ0 h0 F ψ H locs cells slots la hR hE hL hs hl hz hc hn
  exact lv_lmul F.1 F.2.1 d (kk p e R s m args below meth c ψ0 h0 F ψ H locs cells slots la hR hE hL (lv_cons trivial (fun v hv => hs v (List.mem_cons_of_mem _ (List.mem_cons_of_mem _ hv)))) hl hz hc hn)
theorem J_land {x y : Int64} (d : decode (mC M) pc = .ok (.land, 1)) (kk : J X M (pc + 1) ls (vL (x &&& y) :: st) h k n Q) : J X M pc ls (vL y :: vL x :: st) h k n Q := by
  simp only [J_def] at *
  intro p e R s m args below meth c ψ0 h0 F ψ H locs cells slots la hR hE hL hs hl hz hc hn
  exact lv_land F.1 F.2.1 d (kk p e R s m args below meth c ψ0 h0 F ψ H locs cells slots la hR hE hL (lv_cons trivial (fun v hv => hs v (List.mem_cons_of_mem _ (List.mem_cons_of_mem _ hv)))) hl hz hc hn)
theorem J_lor {x y : Int64} (d : decode (mC M) pc = .ok (.lor, 1)) (kk : J X M (pc + 1) ls (vL (x ||| y) :: st) h k n Q) : J X M pc ls (vL y :: vL x :: st) h k n Q := by
  simp only [J_def] at *
  intro p e R s m args below meth c ψ0 h0 F ψ H locs cells slots la hR hE hL hs hl hz hc hn
  exact lv_lor F.1 F.2.1 d (kk p e R s m args below meth c ψ0 h0 F ψ H locs cells slots la hR hE hL (lv_cons trivial (fun v hv => hs v (List.mem_cons_of_mem _ (List.mem_cons_of_mem _ hv)))) hl hz hc hn)
theorem J_lxor {x y : Int64} (d : decode (mC M) pc = .ok (.lxor, 1)) (kk : J X M (pc + 1) ls (vL (x ^^^ y) :: st) h k n Q) : J X M pc ls (vL y :: vL x :: st) h k n Q := by
  simp only [J_def] at *
  intro p e R s m args below meth c ψ0 h0 F ψ H locs cells slots la hR hE hL hs hl hz hc hn
  exact lv_lxor F.1 F.2.1 d (kk p e R s m args below meth c ψ0 h0 F ψ H locs cells slots la hR hE hL (lv_cons trivial (fun v hv => hs v (List.mem_cons_of_mem _ (List.mem_cons_of_mem _ hv)))) hl hz hc hn)
theorem J_lshl {x : Int64} {y : Int32} (d : decode (mC M) pc = .ok (.lshl, 1)) (kk : J X M (pc + 1) ls (vL (x <<< (y.toInt64 &&& 63)) :: st) h k n Q) : J X M pc ls (vI y :: vL x :: st) h k n Q := by
  simp only [J_def] at *
  intro p e R s m args below meth c ψ0 h0 F ψ H locs cells slots la hR hE hL hs hl hz hc hn
  exact lv_lshl F.1 F.2.1 d rfl (kk p e R s m args below meth c ψ0 h0 F ψ H locs cells slots la hR hE hL (lv_cons trivial (fun v hv => hs v (List.mem_cons_of_mem _ (List.mem_cons_of_mem _ hv)))) hl hz hc hn)
theorem J_lushr {x : Int64} {y : Int32} (d : decode (mC M) pc = .ok (.lushr, 1)) (kk : J X M (pc + 1) ls (vL ((x.toUInt64 >>> (y.toInt64.toUInt64 &&& Int64.toUInt64 63)).toInt64) :: st) h k n Q) : J X M pc ls (vI y :: vL x :: st) h k n Q := by
  simp only [J_def] at *
  intro p e R s m args below meth c ψ0 h0 F ψ H locs cells slots la hR hE hL hs hl hz hc hn
  exact lv_lushr F.1 F.2.1 d rfl (kk p e R s m args below meth c ψ0 h0 F ψ H locs cells slots la hR hE hL (lv_cons trivial (fun v hv => hs v (List.mem_cons_of_mem _ (List.mem_cons_of_mem _ hv)))) hl hz hc hn)
theorem J_l2i {x : Int64} (d : decode (mC M) pc = .ok (.l2i, 1)) (kk : J X M (pc + 1) ls (vI x.toInt32 :: st) h k n Q) : J X M pc ls (vL x :: st) h k n Q := by
  simp only [J_def] at *
  intro p e R s m args below meth c ψ0 h0 F ψ H locs cells slots la hR hE hL hs hl hz hc hn
  exact lv_l2i F.1 F.2.1 d rfl (kk p e R s m args below meth c ψ0 h0 F ψ H locs cells slots la hR hE hL (lv_cons trivial (fun v hv => hs v (List.mem_cons_of_mem _ hv))) hl hz hc hn)
theorem J_ldc {idx : Nat} {v : Int32} (d : decode (mC M) pc = .ok (.ldc idx, 2)) (w : Cond.constant (mN M).cls idx v ∈ GW) (kk : J X M (pc + 2) ls (vI v :: st) h k n Q) : J X M pc ls st h k n Q := by
  simp only [J_def] at *
  intro p e R s m args below meth c ψ0 h0 F ψ H locs cells slots la hR hE hL hs hl hz hc hn
  exact lv_ldc F.1 F.2.1 F.2.2.2.2.2.1 (F.2.2.2.2.2.2.1 _ w) d (kk p e R s m args below meth c ψ0 h0 F ψ H locs cells slots la hR hE hL (lv_cons trivial hs) hl hz hc hn)
theorem J_ldc2 {idx : Nat} {v : Int64} (d : decode (mC M) pc = .ok (.ldc2_w idx, 3)) (w : Cond.constantLong (mN M).cls idx v ∈ GW) (kk : J X M (pc + 3) ls (vL v :: st) h k n Q) : J X M pc ls st h k n Q := by
  simp only [J_def] at *
  intro p e R s m args below meth c ψ0 h0 F ψ H locs cells slots la hR hE hL hs hl hz hc hn
  exact lv_ldc2 F.1 F.2.1 F.2.2.2.2.2.1 (F.2.2.2.2.2.2.1 _ w) d (kk p e R s m args below meth c ψ0 h0 F ψ H locs cells slots la hR hE hL (lv_cons trivial hs) hl hz hc hn)
theorem J_lload {i : Nat} {x : Int64} (d : decode (mC M) pc = .ok (.lload i, 2)) (hv : ls[i]? = some (some (vL x))) (kk : J X M (pc + 2) ls (vL x :: st) h k n Q) : J X M pc ls st h k n Q := by
  simp only [J_def] at *
  intro p e R s m args below meth c ψ0 h0 F ψ H locs cells slots la hR hE hL hs hl hz hc hn
  exact lv_lload F.1 F.2.1 d (hL.2.2 i _ hv) (kk p e R s m args below meth c ψ0 h0 F ψ H locs cells slots la hR hE hL (lv_cons trivial hs) hl hz hc hn)
theorem J_lstore {i : Nat} {x : Int64} (d : decode (mC M) pc = .ok (.lstore i, 2)) (hi2 : i + 1 < mL M) (kk : J X M (pc + 2) ((ls.set i (some (vL x))).set (i + 1) none) st h k n Q) (hp : nlg ls i = true := by rfl) : J X M pc ls (vL x :: st) h k n Q := by
  simp only [J_def] at *
  intro p e R s m args below meth c ψ0 h0 F ψ H locs cells slots la hR hE hL hs hl hz hc hn
  have hl2 : ∀ w, some w ∈ (ls.set i (some (vL x))).set (i + 1) none → Lv h w := by
    intro w hw
    rcases List.mem_or_eq_of_mem_set hw with h1 | h1
    · exact lv_set_in (v := vL x) trivial hl w h1
    · cases h1
  exact lv_lstore F.1 F.2.1 d (LRel_has hL) hi2 rfl (fun la hq => kk p e R s m args below meth c ψ0 h0 F ψ H locs cells slots la hR hE (LRel_setL (v := vL x) hp hL hq) (fun v hv => hs v (List.mem_cons_of_mem _ hv)) hl2 hz hc hn)
end JR
end
section
/-! RULES OF J THAT READ OR WRITE THE HEAP -/
theorem Lt_up {h : LH} {t u : Tg} {c : LC} (hu : Lt h u) : Lt (hup h t c) u := by
  rcases hu with hu | hu
  · by_cases e : u = t
    · subst e; exact Or.inl (by rw [hup_s]; exact fun q => nomatch q)
    · exact Or.inl (by rw [hup_n e]; exact hu)
  · exact Or.inr hu
theorem Lv_mono {h h' : LH} (hm : ∀ t, Lt h t → Lt h' t) {v : LV} (hv : Lv h v) : Lv h' v := by
  match v, hv with
  | .inl _, _ => trivial
  | .inr (.inl _), _ => trivial
  | .inr (.inr none), _ => trivial
  | .inr (.inr (some t)), hv => exact hm t hv
theorem Lc_mono {h h' : LH} (hm : ∀ t, Lt h t → Lt h' t) {c : LC} (hc : Lc h c) : Lc h' c := by
  match c, hc with
  | .inl o, hc => exact fun v hv => Lv_mono hm (hc v hv)
  | .inr (_, _, .inr (.inr f)), hc => exact fun j t hj => hm t (hc j t hj)
  | .inr (_, _, .inl _), _ => trivial
  | .inr (_, _, .inr (.inl _)), _ => trivial
theorem conc_ext {tc : Nat → ClassId} {ψ ψ' : Tg → Nat} {h h' : LH} (a : ext ψ ψ' h h') {c : LC} (hc : Lc h c) : conc tc ψ' c = conc tc ψ c := by
  match c, hc with
  | .inl o, hc => show Sum.inr (o.1, o.2.map (ph ψ')) = Sum.inr (o.1, o.2.map (ph ψ)); rw [ext_map a hc]
  | .inr (k, n, .inl f), _ => rfl
  | .inr (k, n, .inr (.inl f)), _ => rfl
  | .inr (k, n, .inr (.inr f)), hc =>
    show Sum.inl (tc k, n, Sum.inr (Sum.inr (Sum.inr (Sum.inr (fun j => (f j).map ψ'))))) = Sum.inl (tc k, n, Sum.inr (Sum.inr (Sum.inr (Sum.inr (fun j => (f j).map ψ)))))
    have e : (fun j => (f j).map ψ') = (fun j => (f j).map ψ) := by
      funext j
      cases hj : f j with
      | none => rfl
      | some t => show some (ψ' t) = some (ψ t); rw [(a t (hc j t hj)).1]
    rw [e]
theorem HR_at {X : GX} {ψ : Tg → Nat} {h : LH} {H : Heap} (hR : HR X ψ h H) {t : Tg} {c : LC} (hh : h t = some c) : va_at (xD X) vwCl (ψ t, conc (xtc X) ψ c) H := (hR.1 t c hh).1
theorem HR_lt {X : GX} {ψ : Tg → Nat} {h : LH} {H : Heap} (hR : HR X ψ h H) {t : Tg} {c : LC} (hh : h t = some c) : ψ t < H.size := (HR_at hR hh).lt
theorem HR_up {X : GX} {ψ : Tg → Nat} {h : LH} {H H1 : Heap} (hR : HR X ψ h H) {t : Tg} {c c0 : LC} (hh : h t = some c0) (hz : H1.size = H.size) (ho : ∀ q, q ≠ ψ t → H1[q]? = H[q]?)
    (ha : va_at (xD X) vwCl (ψ t, conc (xtc X) ψ c) H1) (hc : Lc h c) : HR X ψ (hup h t c) H1 := by
  obtain ⟨g1, g2, g3, g4, g5, g6, g7⟩ := id hR
  have hm : ∀ u, Lt h u → Lt (hup h t c) u := fun u => Lt_up
  have hb : ∀ u, Lt (hup h t c) u → Lt h u := by
    intro u hu
    rcases hu with hu | hu
    · by_cases e : u = t
      · subst e; exact Or.inl (by rw [hh]; exact fun q => nomatch q)
      · rw [hup_n e] at hu; exact Or.inl hu
    · exact Or.inr hu
  have hts : t ≠ tScr := fun e => by rw [e, g4] at hh; cases hh
  refine ⟨fun u cu hu => ?_, fun u u' hu hu' e => g2 u u' (hb u hu) (hb u' hu') e, g3, by rw [hup_n (Ne.symm hts)]; exact g4, g5, by rw [hz]; exact g6, fun q hq => ?_⟩
  · by_cases e : u = t
    · subst e
      rw [hup_s] at hu
      cases hu
      exact ⟨ha, (g1 u c0 hh).2.1, Lc_mono hm hc⟩
    · rw [hup_n e] at hu
      obtain ⟨a1, a2, a3⟩ := g1 u cu hu
      refine ⟨a1.kept (ho _ (fun z => e (g2 u t (Or.inl (by rw [hu]; exact fun q => nomatch q)) (Or.inl (by rw [hh]; exact fun q => nomatch q)) z))), a2, Lc_mono hm a3⟩
  · rw [ho q (fun z => by have := (g1 t c0 hh).2.1; omega)]
    exact g7 q hq
/-- the tag of a new cell -/
def upT (ψ : Tg → Nat) (t : Tg) (a : Nat) : Tg → Nat := fun u => if u = t then a else ψ u
theorem HR_new {X : GX} {ψ : Tg → Nat} {h : LH} {H H1 : Heap} (hR : HR X ψ h H) {t : Tg} {c : LC} (hh : h t = none) (hts : t ≠ tScr) (hz : H1.size = H.size + 1) (ho : ∀ q, q < H.size → H1[q]? = H[q]?)
    (ha : va_at (xD X) vwCl (H.size, conc (xtc X) (upT ψ t H.size) c) H1) (hc : ∀ g, Lc g c) : HR X (upT ψ t H.size) (hup h t c) H1 ∧ ext ψ (upT ψ t H.size) h (hup h t c) := by
  obtain ⟨g1, g2, g3, g4, g5, g6, g7⟩ := id hR
  have hn : ¬ Lt h t := fun e => e.elim (fun e => e hh) hts
  have hx : ext ψ (upT ψ t H.size) h (hup h t c) := fun u hu => ⟨if_neg (fun (e : u = t) => hn (e ▸ hu)), Lt_up hu⟩
  have hm : ∀ u, Lt h u → Lt (hup h t c) u := fun u => Lt_up
  have hb : ∀ u, Lt (hup h t c) u → u = t ∨ Lt h u := by
    intro u hu
    by_cases e : u = t
    · exact Or.inl e
    · refine Or.inr (hu.elim (fun hu => Or.inl ?_) Or.inr)
      rw [hup_n e] at hu; exact hu
  have hl : ∀ u, Lt h u → ψ u < H.size := by
    intro u hu
    rcases hu with hu | hu
    · cases hc : h u with
      | none => exact absurd hc hu
      | some cu => exact HR_lt hR hc
    · subst hu; rw [g3]; omega
  refine ⟨⟨fun u cu hu => ?_, fun u u' hu hu' e => ?_, by rw [(hx tScr (Or.inr rfl)).1]; exact g3, by rw [hup_n (Ne.symm hts)]; exact g4, g5, by omega, fun q hq => ?_⟩, hx⟩
  · by_cases e : u = t
    · subst e
      rw [hup_s] at hu
      cases hu
      refine ⟨by rw [show upT ψ u H.size u = H.size from if_pos rfl]; exact ha, by rw [show upT ψ u H.size u = H.size from if_pos rfl]; exact g6, hc _⟩
    · rw [hup_n e] at hu
      obtain ⟨a1, a2, a3⟩ := g1 u cu hu
      have hul : Lt h u := Or.inl (by rw [hu]; exact fun q => nomatch q)
      rw [conc_ext hx a3, (hx u hul).1]
      exact ⟨a1.kept (ho _ (hl u hul)), a2, Lc_mono hm a3⟩
  · have hit : upT ψ t H.size t = H.size := if_pos rfl
    rcases hb u hu with e1 | hu1 <;> rcases hb u' hu' with e2 | hu2
    · rw [e1, e2]
    · rw [(hx u' hu2).1, e1, hit] at e
      have := hl u' hu2; omega
    · rw [(hx u hu1).1, e2, hit] at e
      have := hl u hu1; omega
    · rw [(hx u hu1).1, (hx u' hu2).1] at e
      exact g2 u u' hu1 hu2 e
  · rw [ho q (by omega)]; exact g7 q hq
/-- a class of objects, by the tables -/
def ClsOK (ci : Nat) (C : String) (T : u_T) (N : Nat) (ty : Nat → FieldType) : Prop :=
  vwCl[ci]? = some (C, T, N) ∧ (∀ w ∈ u_ws C T N, w ∈ GW) ∧ (∀ k, k < N → parseFieldDescriptor (T k).2.2.1 = some (ty k)) ∧ (∀ a, a < N → ∀ b, b < N → a ≠ b → (T a).2.1 ≠ (T b).2.1)
/-- a field of it, linked at an entry of the pool of 'own' -/
def FI (own : String) (idx ci kf : Nat) (ft : FieldType) (fin : Bool) : Prop := ∃ (C : String) (T : u_T) (N : Nat) (ty : Nat → FieldType),
  ClsOK ci C T N ty ∧ Cond.fieldLink own idx C (T kf).2.1 (T kf).2.2.1 ∈ GW ∧ kf < N ∧ (T kf).1 = C ∧ parseFieldDescriptor (T kf).2.2.1 = some ft ∧ (T kf).2.2.2 = fin
section JH
variable {X : GX} {M : MI} {pc : Nat} {ls : List (Option LV)} {st : List LV} {h : LH} {k n : Nat} {Q : LO → LH → Prop}
theorem J_getf {t : Tg} {ci kf idx : Nat} {fs : List LV} {ft : FieldType} {fin : Bool} {v : LV} (d : decode (mC M) pc = .ok (.getfield idx, 3)) (f : FI (mN M).cls idx ci kf ft fin) (hh : h t = some (cO ci fs)) (hv : fs[kf]? = some v)
    (kk : J X M (pc + 3) ls (v :: st) h k n Q) : J X M pc ls (vR (some t) :: st) h k n Q := by
  simp only [J_def] at *
  intro p e R s m args below meth c ψ0 h0 F ψ H locs cells slots la hR hE hL hs hl hz hc hn
  obtain ⟨C, T, N, ty, hC, hw, hk, ho, -, -⟩ := f
  have hat := HR_at hR hh
  have hP : va_P (xD X) vwCl [(ψ t, conc (xtc X) ψ (cO ci fs))] H := fun q x hx => by
    cases q with
    | zero => cases hx; exact hat
    | succ q => cases hx
  have hlv : Lv h v := (hR.1 t _ hh).2.2 v (List.mem_of_getElem? hv)
  exact va_get (cl := vwCl) F.1 F.2.1 F.2.2.2.2.2.2.1 hC.2.1 F.2.2.2.2.2.1 F.2.2.2.2.2.2.2.1.1 hP 0 (fs := fs.map (ph ψ)) rfl hC.1 kf hk (F.2.2.2.2.2.2.1 _ hw) (fun x hx => by rw [ho] at hx; exact hx) (v := ph ψ v) (by rw [List.getElem?_map, hv]; rfl) d
    (kk p e R s m args below meth c ψ0 h0 F ψ H locs cells slots la hR hE hL (lv_cons hlv (fun v hv => hs v (List.mem_cons_of_mem _ hv))) hl hz hc hn)
theorem xA_loc {locs : List Loc} {a i : Nat} (ha : xA X a) (hz : ∀ z ∈ locs, xA X z.base) : ∀ z ∈ locs ++ [⟨a, i⟩], xA X z.base := by
  intro z hq
  rcases List.mem_append.mp hq with q | q
  · exact hz z q
  · rcases List.mem_cons.mp q with rfl | q
    · exact ha
    · cases q
theorem J_put {t : Tg} {ci kf idx : Nat} {fs : List LV} {ft : FieldType} {v : LV} (d : decode (mC M) pc = .ok (.putfield idx, 3)) (f : FI (mN M).cls idx ci kf ft false) (hh : h t = some (cO ci fs)) (hlen : kf < fs.length)
    (hn1 : ∀ ψ, narrow ft (ph ψ v) = ph ψ v) (hf1 : ∀ ψ, fits ft (ph ψ v) = true) (kk : J X M (pc + 3) ls st (hup h t (cO ci (fs.set kf v))) k n Q) : J X M pc ls (v :: vR (some t) :: st) h k n Q := by
  simp only [J_def] at *
  intro p e R s m args below meth c ψ0 h0 F ψ H locs cells slots la hR hE hL hs hl hz hc hn
  obtain ⟨C, T, N, ty, hC, hw, hk, ho, hp, hfin⟩ := f
  have hts := F.2.2.2.2.2.2.1
  have hK := F.2.2.2.2.2.2.2.1.1
  have hap := va_apart (own := C) hts hC.2.1 ty hC.2.2.1 hC.2.2.2 hK hC.1
  obtain ⟨r, h1, cell, q1, q2, q3, q4⟩ := HR_at hR hh
  have hr : r = (C, T, N) := Option.some.inj (h1.symm.trans hC.1)
  subst hr
  obtain ⟨hS, hfc, kC, hkC, hkind⟩ := hK.1 ci _ hC.1
  obtain ⟨cf, kf', fi, fd, hi, hsl⟩ := hS kf hk
  have hlay := hts _ (hC.2.1 _ (u_in_lay hk))
  unfold u_lay at hlay
  rw [if_neg (by rw [hfin]; decide)] at hlay
  have hst := (u_facts hfc hkC (u_lays hts hC.2.1 hk) hi).1
  have h6 := u_store hfc hkC hkind hlay hi hp (hn1 ψ) (hf1 ψ)
  have hlv : Lv h v := hs v List.mem_cons_self
  refine W.putK F.1 F.2.1 (f := fd) ⟨F.2.2.2.2.2.1, hts _ hw, ⟨_, _, _, by rw [ho] at hi; exact hi⟩, hst⟩ (by rw [q2]; exact h6) q1 q3 (by rw [hsl]; exact k2_hasslot (q4 kf hk)) rfl rfl d fun H' e1 e2 e3 => ?_
  rw [hsl] at e1 ⊢
  have hnew : va_at (xD X) vwCl (ψ t, conc (xtc X) ψ (cO ci (fs.set kf v))) H' := by
    refine ⟨_, hC.1, ?_⟩
    show t_OB _ _ _ _ _ (vp_V ((fs.set kf v).map (ph ψ)))
    rw [List.map_set]
    exact t_OB.to (V := updV (vp_V (fs.map (ph ψ))) kf (ph ψ v)) ⟨_, e1, q2, q3, t_set q4 hap hk (ph ψ v)⟩ (fun j _ => vp_updV_set (by rw [List.length_map]; exact hlen) (ph ψ v) j)
  have hlc : Lc h (cO ci (fs.set kf v)) := by
    intro w hw
    rcases List.mem_or_eq_of_mem_set hw with hw | rfl
    · exact (hR.1 t _ hh).2.2 w hw
    · exact hlv
  have hR' := HR_up hR hh e2 e3 hnew hlc
  have hm : ∀ u, Lt h u → Lt (hup h t (cO ci (fs.set kf v))) u := fun u => Lt_up
  exact kk p e R s m args below meth c ψ0 h0 F ψ H' _ cells slots la hR' (fun u hu => ⟨(hE u hu).1, hm u (hE u hu).2⟩) hL (fun w hw => Lv_mono hm (hs w (List.mem_cons_of_mem _ (List.mem_cons_of_mem _ hw)))) (fun w hw => Lv_mono hm (hl w hw)) (xA_loc (hR.1 t _ hh).2.1 hz) hc hn
theorem J_putF {t : Tg} {ci kf idx : Nat} {fs : List LV} {ft : FieldType} {v : LV} (d : decode (mC M) pc = .ok (.putfield idx, 3)) (f : FI (mN M).cls idx ci kf ft true) (hcl : vwCl[ci]?.map (fun r => r.1) = some (mN M).cls) (hini : (mN M).name = "<init>") (hh : h t = some (cO ci fs)) (hlen : kf < fs.length)
    (hn1 : ∀ ψ, narrow ft (ph ψ v) = ph ψ v) (hf1 : ∀ ψ, fits ft (ph ψ v) = true) (kk : J X M (pc + 3) ls st (hup h t (cO ci (fs.set kf v))) k n Q) : J X M pc ls (v :: vR (some t) :: st) h k n Q := by
  simp only [J_def] at *
  intro p e R s m args below meth c ψ0 h0 F ψ H locs cells slots la hR hE hL hs hl hz hc hn
  obtain ⟨C, T, N, ty, hC, hw, hk, ho, hp, hfin⟩ := f
  have hdc : C = (mN M).cls := by rw [hC.1] at hcl; exact Option.some.inj hcl
  have hts := F.2.2.2.2.2.2.1
  have hK := F.2.2.2.2.2.2.2.1.1
  have hap := va_apart (own := C) hts hC.2.1 ty hC.2.2.1 hC.2.2.2 hK hC.1
  obtain ⟨r, h1, cell, q1, q2, q3, q4⟩ := HR_at hR hh
  have hr : r = (C, T, N) := Option.some.inj (h1.symm.trans hC.1)
  subst hr
  obtain ⟨hS, hfc, kC, hkC, hkind⟩ := hK.1 ci _ hC.1
  obtain ⟨cf, kf', fi, fd, hi, hsl⟩ := hS kf hk
  have hlay := hts _ (hC.2.1 _ (u_in_lay hk))
  unfold u_lay at hlay
  rw [if_pos hfin] at hlay
  have hst := (u_facts hfc hkC (u_lays hts hC.2.1 hk) hi).1
  have hcf : m.cls = cf := by
    obtain ⟨_, _, c', _, _, _, -, -, hf', -, -, -, hown2, -⟩ := Cond.laysFinal_spec hlay
    have e1 : c' = cf := by have := hi.symm.trans hf'; simp at this; exact this.1.symm
    rw [ho, hdc] at hown2
    rw [← e1]; exact Option.some.inj (F.2.2.2.2.2.1.symm.trans hown2)
  have h6 := u_fits hfc hkC hkind (Or.inr hlay) hi hp (hn1 ψ) (hf1 ψ)
  have hlv : Lv h v := hs v List.mem_cons_self
  refine W.putFinK F.1 F.2.1 F.2.2.2.2.2.1 (hts _ hw) (by rw [ho] at hi; exact hi) hst hcf (F.2.2.2.2.2.2.2.2.2.2.1.trans hini) (by rw [q2]; exact h6) q1 q3 (by rw [hsl]; exact k2_hasslot (q4 kf hk)) rfl rfl d fun H' e1 e2 e3 => ?_
  rw [hsl] at e1 ⊢
  have hnew : va_at (xD X) vwCl (ψ t, conc (xtc X) ψ (cO ci (fs.set kf v))) H' := by
    refine ⟨_, hC.1, ?_⟩
    show t_OB _ _ _ _ _ (vp_V ((fs.set kf v).map (ph ψ)))
    rw [List.map_set]
    exact t_OB.to (V := updV (vp_V (fs.map (ph ψ))) kf (ph ψ v)) ⟨_, e1, q2, q3, t_set q4 hap hk (ph ψ v)⟩ (fun j _ => vp_updV_set (by rw [List.length_map]; exact hlen) (ph ψ v) j)
  have hlc : Lc h (cO ci (fs.set kf v)) := by
    intro w hw
    rcases List.mem_or_eq_of_mem_set hw with hw | rfl
    · exact (hR.1 t _ hh).2.2 w hw
    · exact hlv
  have hR' := HR_up hR hh e2 e3 hnew hlc
  have hm : ∀ u, Lt h u → Lt (hup h t (cO ci (fs.set kf v))) u := fun u => Lt_up
  exact kk p e R s m args below meth c ψ0 h0 F ψ H' _ cells slots la hR' (fun u hu => ⟨(hE u hu).1, hm u (hE u hu).2⟩) hL (fun w hw => Lv_mono hm (hs w (List.mem_cons_of_mem _ (List.mem_cons_of_mem _ hw)))) (fun w hw => Lv_mono hm (hl w hw)) (xA_loc (hR.1 t _ hh).2.1 hz) hc hn
end JH
end
section
/-! ROWS OF NUMBERS AND REFERENCES, NEW CELLS, THE SCRIPT, THE METHOD'S END -/
def ix (i : Int32) (n j : Nat) : Prop := vp_in i n ∧ i.toNatClampNeg = j
theorem ix_nI {j n : Nat} (h : j < n) (hn : n < 2 ^ 31) : ix (nI j) n j := ⟨vp_in_nI h hn, nI_clamp (by omega)⟩
theorem ix_lt {i : Int32} {n j : Nat} (h : ix i n j) : j < n := by
  have := h.1
  unfold vp_in at this
  rw [← h.2]; omega
def xzb (x : Int32) : Prop := x = 0 ∨ x = 1
theorem xzb_nar {x : Int32} (h : xzb x) : narrow .boolean (.int x) = .int x := by rcases h with rfl | rfl <;> rfl
theorem xzb_fit {x : Int32} (h : xzb x) : fits .boolean (.int x) = true := by rcases h with rfl | rfl <;> rfl
def freshL (fs : List LV) : Bool := fs.all (fun v => match v with
  | .inr (.inr (some _)) => false
  | _ => true)
theorem freshL_lv {fs : List LV} (hf : freshL fs = true) (g : LH) : ∀ v ∈ fs, Lv g v := by
  intro v hv
  have h1 := List.all_eq_true.mp hf v hv
  match v, h1 with
  | .inl _, _ => trivial
  | .inr (.inl _), _ => trivial
  | .inr (.inr none), _ => trivial
def NI (own : String) (idx ci : Nat) (fs : List LV) (N : Nat) : Prop := ∃ (C : String) (T : u_T) (ty : Nat → FieldType),
  ClsOK ci C T N ty ∧ Cond.classLink own idx C ∈ GW ∧ Cond.instantiable C N ∈ GW ∧ Cond.initialized C ∈ GW ∧ (∀ ψ j, j < N → defaultValue (ty j) = vp_V (fs.map (ph ψ)) j) ∧ freshL fs = true
section JA
variable {X : GX} {M : MI} {pc : Nat} {ls : List (Option LV)} {st : List LV} {h : LH} {k n : Nat} {Q : LO → LH → Prop}
theorem J_putI {t : Tg} {ci kf idx : Nat} {fs : List LV} {x : Int32} (d : decode (mC M) pc = .ok (.putfield idx, 3)) (f : FI (mN M).cls idx ci kf .int false) (hh : h t = some (cO ci fs)) (hlen : kf < fs.length)
    (kk : J X M (pc + 3) ls st (hup h t (cO ci (fs.set kf (vI x)))) k n Q) : J X M pc ls (vI x :: vR (some t) :: st) h k n Q := J_put d f hh hlen (fun _ => rfl) (fun _ => rfl) kk
theorem J_putZ {t : Tg} {ci kf idx : Nat} {fs : List LV} {x : Int32} (d : decode (mC M) pc = .ok (.putfield idx, 3)) (f : FI (mN M).cls idx ci kf .boolean false) (hx : xzb x) (hh : h t = some (cO ci fs)) (hlen : kf < fs.length)
    (kk : J X M (pc + 3) ls st (hup h t (cO ci (fs.set kf (vI x)))) k n Q) : J X M pc ls (vI x :: vR (some t) :: st) h k n Q := J_put d f hh hlen (fun _ => xzb_nar hx) (fun _ => xzb_fit hx) kk
def rfT (ty : FieldType) : Bool := match ty with
  | .object _ => true
  | .array _ => true
  | _ => false
theorem rfT_nar {ty : FieldType} (h : rfT ty = true) (r : Option Tg) (ψ : Tg → Nat) : narrow ty (ph ψ (vR r)) = ph ψ (vR r) ∧ fits ty (ph ψ (vR r)) = true := by
  cases ty <;> first
    | (simp [rfT] at h; done)
    | (cases r <;> exact ⟨rfl, rfl⟩)
theorem J_putR {t : Tg} {ci kf idx : Nat} {fs : List LV} {ty : FieldType} {r : Option Tg} (d : decode (mC M) pc = .ok (.putfield idx, 3)) (f : FI (mN M).cls idx ci kf ty false) (hty : rfT ty = true) (hh : h t = some (cO ci fs)) (hlen : kf < fs.length)
    (kk : J X M (pc + 3) ls st (hup h t (cO ci (fs.set kf (vR r)))) k n Q) : J X M pc ls (vR r :: vR (some t) :: st) h k n Q := J_put d f hh hlen (fun ψ => (rfT_nar hty r ψ).1) (fun ψ => (rfT_nar hty r ψ).2) kk
theorem J_putFI {t : Tg} {ci kf idx : Nat} {fs : List LV} {x : Int32} (d : decode (mC M) pc = .ok (.putfield idx, 3)) (f : FI (mN M).cls idx ci kf .int true) (hcl : vwCl[ci]?.map (fun r => r.1) = some (mN M).cls) (hini : (mN M).name = "<init>") (hh : h t = some (cO ci fs)) (hlen : kf < fs.length)
    (kk : J X M (pc + 3) ls st (hup h t (cO ci (fs.set kf (vI x)))) k n Q) : J X M pc ls (vI x :: vR (some t) :: st) h k n Q := J_putF d f hcl hini hh hlen (fun _ => rfl) (fun _ => rfl) kk
theorem J_putFZ {t : Tg} {ci kf idx : Nat} {fs : List LV} {x : Int32} (d : decode (mC M) pc = .ok (.putfield idx, 3)) (f : FI (mN M).cls idx ci kf .boolean true) (hcl : vwCl[ci]?.map (fun r => r.1) = some (mN M).cls) (hini : (mN M).name = "<init>") (hx : xzb x) (hh : h t = some (cO ci fs)) (hlen : kf < fs.length)
    (kk : J X M (pc + 3) ls st (hup h t (cO ci (fs.set kf (vI x)))) k n Q) : J X M pc ls (vI x :: vR (some t) :: st) h k n Q := J_putF d f hcl hini hh hlen (fun _ => xzb_nar hx) (fun _ => xzb_fit hx) kk
theorem J_putFR {t : Tg} {ci kf idx : Nat} {fs : List LV} {ty : FieldType} {r : Option Tg} (d : decode (mC M) pc = .ok (.putfield idx, 3)) (f : FI (mN M).cls idx ci kf ty true) (hcl : vwCl[ci]?.map (fun r => r.1) = some (mN M).cls) (hini : (mN M).name = "<init>") (hty : rfT ty = true) (hh : h t = some (cO ci fs)) (hlen : kf < fs.length)
    (kk : J X M (pc + 3) ls st (hup h t (cO ci (fs.set kf (vR r)))) k n Q) : J X M pc ls (vR r :: vR (some t) :: st) h k n Q := J_putF d f hcl hini hh hlen (fun ψ => (rfT_nar hty r ψ).1) (fun ψ => (rfT_nar hty r ψ).2) kk
theorem J_iald {t : Tg} {N j : Nat} {f : Nat → Int32} {i : Int32} (d : decode (mC M) pc = .ok (.iaload, 1)) (hh : h t = some (cI 0 N f)) (hi : ix i N j) (kk : J X M (pc + 1) ls (vI (f j) :: st) h k n Q) : J X M pc ls (vI i :: vR (some t) :: st) h k n Q := by
  simp only [J_def] at *
  intro p e R s m args below meth c ψ0 h0 F ψ H locs cells slots la hR hE hL hs hl hz hc hn
  have hat : H[ψ t]? = some (arrV (xtc X 0) N (fun j => Value.int (f j))) := HR_at hR hh
  have hA := (F.2.2.2.2.2.2.2.1.1.2 0 _ (tysL_at (xtc X) (by decide))).1
  obtain ⟨hin, hj⟩ := hi
  have hlt : i.toNatClampNeg < N := Nat.not_le.mp fun q => hin (Or.inr q)
  refine W.iald (v := .int (f j)) F.1 F.2.1 hat (hA N (fun j => .int (f j))) (fun q => by cases q) (by show ¬ (i < 0 ∨ (arrV _ _ _).slots.size ≤ _); rw [arrV_size]; exact hin) (by show (arrV _ _ _).slots[_]? = _; rw [arrV_read _ _ hlt, hj]) rfl rfl d ?_
  exact kk p e R s m args below meth c ψ0 h0 F ψ H locs cells slots la hR hE hL (lv_cons trivial (fun v hv => hs v (List.mem_cons_of_mem _ (List.mem_cons_of_mem _ hv)))) hl hz hc hn
theorem J_lald {t : Tg} {N j : Nat} {f : Nat → Int64} {i : Int32} (d : decode (mC M) pc = .ok (.laload, 1)) (hh : h t = some (cL 2 N f)) (hi : ix i N j) (kk : J X M (pc + 1) ls (vL (f j) :: st) h k n Q) : J X M pc ls (vI i :: vR (some t) :: st) h k n Q := by
  simp only [J_def] at *
  intro p e R s m args below meth c ψ0 h0 F ψ H locs cells slots la hR hE hL hs hl hz hc hn
  have hat : H[ψ t]? = some (arrV (xtc X 2) N (fun j => Value.long (f j))) := HR_at hR hh
  have hA := (F.2.2.2.2.2.2.2.1.1.2 2 _ (tysL_at (xtc X) (by decide))).1
  obtain ⟨hin, hj⟩ := hi
  have hlt : i.toNatClampNeg < N := Nat.not_le.mp fun q => hin (Or.inr q)
  refine W.lald (v := .long (f j)) F.1 F.2.1 hat (hA N (fun j => .long (f j))) (fun q => by cases q) (by show ¬ (i < 0 ∨ (arrV _ _ _).slots.size ≤ _); rw [arrV_size]; exact hin) (by show (arrV _ _ _).slots[_]? = _; rw [arrV_read _ _ hlt, hj]) rfl rfl d ?_
  exact kk p e R s m args below meth c ψ0 h0 F ψ H locs cells slots la hR hE hL (lv_cons trivial (fun v hv => hs v (List.mem_cons_of_mem _ (List.mem_cons_of_mem _ hv)))) hl hz hc hn
theorem J_aald {t : Tg} {K N j : Nat} {f : Nat → Option Tg} {i : Int32} (d : decode (mC M) pc = .ok (.aaload, 1)) (hk : K < 7) (hk3 : (aTy K).isReference = true) (hh : h t = some (cQ K N f)) (hi : ix i N j) (kk : J X M (pc + 1) ls (vR (f j) :: st) h k n Q) : J X M pc ls (vI i :: vR (some t) :: st) h k n Q := by
  simp only [J_def] at *
  intro p e R s m args below meth c ψ0 h0 F ψ H locs cells slots la hR hE hL hs hl hz hc hn
  have hat : H[ψ t]? = some (arrV (xtc X K) N (fun j => phR ψ (f j))) := HR_at hR hh
  have hA := (F.2.2.2.2.2.2.2.1.1.2 K _ (tysL_at (xtc X) hk)).1
  obtain ⟨hin, hj⟩ := hi
  have hlt : i.toNatClampNeg < N := Nat.not_le.mp fun q => hin (Or.inr q)
  have hlv : Lv h (vR (f j)) := by
    cases hf : f j with
    | none => trivial
    | some u => exact (hR.1 t _ hh).2.2 j u hf
  refine W.aald (v := phR ψ (f j)) F.1 F.2.1 hat (hA N (fun j => phR ψ (f j))) hk3 (fun q => by cases q) (by show ¬ (i < 0 ∨ (arrV _ _ _).slots.size ≤ _); rw [arrV_size]; exact hin) (by show (arrV _ _ _).slots[_]? = _; rw [arrV_read _ _ hlt, hj]) rfl rfl d ?_
  exact kk p e R s m args below meth c ψ0 h0 F ψ H locs cells slots la hR hE hL (lv_cons hlv (fun v hv => hs v (List.mem_cons_of_mem _ (List.mem_cons_of_mem _ hv)))) hl hz hc hn
theorem J_iast {t : Tg} {N j : Nat} {f : Nat → Int32} {i : Int32} {x : Int32} (d : decode (mC M) pc = .ok (.iastore, 1)) (hh : h t = some (cI 0 N f)) (hi : ix i N j) (kk : J X M (pc + 1) ls st (hup h t (cI 0 N (upd f j x))) k n Q) : J X M pc ls (vI x :: vI i :: vR (some t) :: st) h k n Q := by
  simp only [J_def] at *
  intro p e R s m args below meth c ψ0 h0 F ψ H locs cells slots la hR hE hL hs hl hz hc hn
  have hat : H[ψ t]? = some (arrV (xtc X 0) N (fun j => Value.int (f j))) := HR_at hR hh
  have hA := (F.2.2.2.2.2.2.2.1.1.2 0 _ (tysL_at (xtc X) (by decide))).1
  obtain ⟨hin, hj⟩ := hi
  refine W.iast F.1 F.2.1 hat (hA N (fun j => .int (f j))) (fun q => by cases q) (by show ¬ (i < 0 ∨ (arrV _ _ _).slots.size ≤ _); rw [arrV_size]; exact hin) rfl rfl d fun H1 e1 e2 e3 => ?_
  have hnew : H1[ψ t]? = some (arrV (xtc X 0) N (fun q => Value.int (upd f j x q))) := by
    rw [e1, arrV_store, hj]
    congr 2
    funext q
    by_cases hq : q = j
    · subst hq; simp [updV, upd]
    · simp [updV, upd, hq]
  have hR2 := HR_up hR hh e2 e3 (c := cI 0 N (upd f j x)) hnew trivial
  exact kk p e R s m args below meth c ψ0 h0 F ψ H1 _ cells slots la hR2 (fun u hu => ⟨(hE u hu).1, Lt_up (hE u hu).2⟩) hL (fun w hw => Lv_mono (fun u => Lt_up) (hs w (List.mem_cons_of_mem _ (List.mem_cons_of_mem _ (List.mem_cons_of_mem _ hw))))) (fun w hw => Lv_mono (fun u => Lt_up) (hl w hw)) (xA_loc (hR.1 t _ hh).2.1 hz) hc hn
theorem J_last {t : Tg} {N j : Nat} {f : Nat → Int64} {i : Int32} {x : Int64} (d : decode (mC M) pc = .ok (.lastore, 1)) (hh : h t = some (cL 2 N f)) (hi : ix i N j) (kk : J X M (pc + 1) ls st (hup h t (cL 2 N (vp_updL f j x))) k n Q) : J X M pc ls (vL x :: vI i :: vR (some t) :: st) h k n Q := by
  simp only [J_def] at *
  intro p e R s m args below meth c ψ0 h0 F ψ H locs cells slots la hR hE hL hs hl hz hc hn
  have hat : H[ψ t]? = some (arrV (xtc X 2) N (fun j => Value.long (f j))) := HR_at hR hh
  have hA := (F.2.2.2.2.2.2.2.1.1.2 2 _ (tysL_at (xtc X) (by decide))).1
  obtain ⟨hin, hj⟩ := hi
  refine W.last F.1 F.2.1 hat (hA N (fun j => .long (f j))) (fun q => by cases q) (by show ¬ (i < 0 ∨ (arrV _ _ _).slots.size ≤ _); rw [arrV_size]; exact hin) rfl rfl d fun H1 e1 e2 e3 => ?_
  have hnew : H1[ψ t]? = some (arrV (xtc X 2) N (fun q => Value.long (vp_updL f j x q))) := by
    rw [e1, arrV_store, hj]
    congr 2
    funext q
    by_cases hq : q = j
    · subst hq; simp [updV, vp_updL]
    · simp [updV, vp_updL, hq]
  have hR2 := HR_up hR hh e2 e3 (c := cL 2 N (vp_updL f j x)) hnew trivial
  exact kk p e R s m args below meth c ψ0 h0 F ψ H1 _ cells slots la hR2 (fun u hu => ⟨(hE u hu).1, Lt_up (hE u hu).2⟩) hL (fun w hw => Lv_mono (fun u => Lt_up) (hs w (List.mem_cons_of_mem _ (List.mem_cons_of_mem _ (List.mem_cons_of_mem _ hw))))) (fun w hw => Lv_mono (fun u => Lt_up) (hl w hw)) (xA_loc (hR.1 t _ hh).2.1 hz) hc hn
theorem J_aast {t u : Tg} {K N j ci N' : Nat} {f : Nat → Option Tg} {i : Int32} {C : String} {T : u_T} {fs : List LV} (d : decode (mC M) pc = .ok (.aastore, 1)) (hk : K < 7) (hkC : aTy K = .object C) (hcl : vwCl[ci]? = some (C, T, N')) (hh : h t = some (cQ K N f)) (hu : h u = some (cO ci fs)) (hi : ix i N j) (kk : J X M (pc + 1) ls st (hup h t (cQ K N (va_up f j (some u)))) k n Q) : J X M pc ls (vR (some u) :: vI i :: vR (some t) :: st) h k n Q := by
  simp only [J_def] at *
  intro p e R s m args below meth c ψ0 h0 F ψ H locs cells slots la hR hE hL hs hl hz hc hn
  have hat : H[ψ t]? = some (arrV (xtc X K) N (fun j => phR ψ (f j))) := HR_at hR hh
  have hKK := F.2.2.2.2.2.2.2.1.1
  obtain ⟨hin, hj⟩ := hi
  have hlt : i.toNatClampNeg < N := Nat.not_le.mp fun q => hin (Or.inr q)
  have h0' : ¬ i < 0 := fun q => hin (Or.inl q)
  obtain ⟨r', hr', cellV, g1, g2, g3, -⟩ := HR_at hR hu
  have hcls := (hKK.1 ci _ hcl).2
  have hra := (hKK.2 K _ (tysL_at (xtc X) hk)).2
  rw [hkC] at hra
  obtain ⟨kA, comp, k1, k2, k3, -⟩ := hra
  have hcomp : comp = (xD X).1 ci := Option.some.inj (k3.symm.trans hcls.1)
  subst hcomp
  have hr : r' = (C, T, N') := Option.some.inj (hr'.symm.trans hcl)
  subst hr
  obtain ⟨kC, hkCC, -⟩ := hcls.2
  refine W.aast F.1 F.2.1 hat (fun q h => by cases h) (fun h => by cases h) k1 k2 rfl hkCC ⟨h0', by show _ < (arrV _ _ _).slots.size; rw [arrV_size]; exact hlt⟩ g1 (fun q h => by rw [g3] at h; cases h) (by rw [g2]; exact hkCC) (by rw [g2]; exact va_assign hcls) rfl rfl d fun H1 e1 e2 e3 => ?_
  have hnew : H1[ψ t]? = some (arrV (xtc X K) N (fun q => va_rf ((va_up f j (some u) q).map ψ))) := by
    rw [e1, arrV_store, hj]
    congr 2
    funext q
    by_cases hq : q = j
    · subst hq; simp [updV, va_up, va_rf]
    · simp [updV, va_up, hq, phR]
  have hlc : Lc h (cQ K N (va_up f j (some u))) := by
    intro q w hw
    by_cases hq : q = j
    · subst hq
      have hw2 : some u = some w := by simpa [va_up] using hw
      cases hw2
      exact Or.inl (by rw [hu]; exact fun z => nomatch z)
    · rw [show va_up f j (some u) q = f q from if_neg hq] at hw
      exact (hR.1 t _ hh).2.2 q w hw
  have hR2 := HR_up hR hh e2 e3 (c := cQ K N (va_up f j (some u))) hnew hlc
  exact kk p e R s m args below meth c ψ0 h0 F ψ H1 _ cells slots la hR2 (fun u hu => ⟨(hE u hu).1, Lt_up (hE u hu).2⟩) hL (fun w hw => Lv_mono (fun u => Lt_up) (hs w (List.mem_cons_of_mem _ (List.mem_cons_of_mem _ (List.mem_cons_of_mem _ hw))))) (fun w hw => Lv_mono (fun u => Lt_up) (hl w hw)) (xA_loc (hR.1 t _ hh).2.1 hz) hc hn
theorem J_aastN {t : Tg} {K N j : Nat} {f : Nat → Option Tg} {i : Int32} {C : String} (d : decode (mC M) pc = .ok (.aastore, 1)) (hk : K < 7) (hkC : aTy K = .object C) (hh : h t = some (cQ K N f)) (hi : ix i N j) (kk : J X M (pc + 1) ls st (hup h t (cQ K N (va_up f j none))) k n Q) : J X M pc ls (vR none :: vI i :: vR (some t) :: st) h k n Q := by
  simp only [J_def] at *
  intro p e R s m args below meth c ψ0 h0 F ψ H locs cells slots la hR hE hL hs hl hz hc hn
  have hat : H[ψ t]? = some (arrV (xtc X K) N (fun j => phR ψ (f j))) := HR_at hR hh
  have hA := (F.2.2.2.2.2.2.2.1.1.2 K _ (tysL_at (xtc X) hk)).1
  rw [hkC] at hA
  obtain ⟨hin, hj⟩ := hi
  refine va_WaastN (C := C) F.1 F.2.1 hat (hA N (fun j => phR ψ (f j))) (fun h => by cases h) (by show ¬ (i < 0 ∨ (arrV _ _ _).slots.size ≤ _); rw [arrV_size]; exact hin) rfl rfl d fun H1 e1 e2 e3 => ?_
  have hnew : H1[ψ t]? = some (arrV (xtc X K) N (fun q => va_rf ((va_up f j none q).map ψ))) := by
    rw [e1, arrV_store, hj]
    congr 2
    funext q
    by_cases hq : q = j
    · subst hq; simp [updV, va_up, va_rf]
    · simp [updV, va_up, hq, phR]
  have hlc : Lc h (cQ K N (va_up f j none)) := by
    intro q w hw
    by_cases hq : q = j
    · subst hq
      have hw2 : none = some w := by simpa [va_up] using hw
      cases hw2
    · rw [show va_up f j none q = f q from if_neg hq] at hw
      exact (hR.1 t _ hh).2.2 q w hw
  have hR2 := HR_up hR hh e2 e3 (c := cQ K N (va_up f j none)) hnew hlc
  exact kk p e R s m args below meth c ψ0 h0 F ψ H1 _ cells slots la hR2 (fun u hu => ⟨(hE u hu).1, Lt_up (hE u hu).2⟩) hL (fun w hw => Lv_mono (fun u => Lt_up) (hs w (List.mem_cons_of_mem _ (List.mem_cons_of_mem _ (List.mem_cons_of_mem _ hw))))) (fun w hw => Lv_mono (fun u => Lt_up) (hl w hw)) (xA_loc (hR.1 t _ hh).2.1 hz) hc hn
theorem J_new {t : Tg} {idx ci N : Nat} {fs : List LV} (d : decode (mC M) pc = .ok (.new idx, 3)) (f : NI (mN M).cls idx ci fs N) (ht : h t = none) (hts : t ≠ tScr) (kk : J X M (pc + 3) ls (vR (some t) :: st) (hup h t (cO ci fs)) k n Q) : J X M pc ls st h (k + 1) (n + N) Q := by
  simp only [J_def] at *
  intro p e R s m args below meth c ψ0 h0 F ψ H locs cells slots la hR hE hL hs hl hz hc hn
  obtain ⟨C, T, ty, hC, hw1, hw2, hw3, hfs, hfr⟩ := f
  have hts0 := F.2.2.2.2.2.2.1
  have hKn := F.2.2.2.2.2.2.2.1.1.1 ci _ hC.1
  have hRR := F.2.2.2.2.2.2.2.2.1
  refine W.newcK F.1 F.2.1 F.2.2.2.2.2.1 (hts0 _ hw1) (hts0 _ hw2) (hts0 _ hw3) rfl d (by rw [hRR]; omega) (by rw [hRR]; omega) hKn.2.1 rfl fun H1 kC hkC e1 z1 o1 => ?_
  have hnew : va_at (xD X) vwCl (H.size, conc (xtc X) (upT ψ t H.size) (cO ci fs)) H1 := ⟨_, hC.1, (u_born ty hts0 hC.2.1 hKn hkC e1 hC.2.2.1).to (fun j hj => hfs _ j hj)⟩
  obtain ⟨hR2, hX2⟩ := HR_new hR ht hts z1 o1 hnew (fun g => freshL_lv hfr g)
  rw [show (Value.ref H.size :: st.map (ph ψ)) = (vR (some t) :: st).map (ph (upT ψ t H.size)) by
    rw [List.map_cons, ext_map hX2 hs]; show _ = Value.ref (upT ψ t H.size t) :: _; rw [show upT ψ t H.size t = H.size from if_pos rfl]]
  exact kk p e R s m args below meth c ψ0 h0 F (upT ψ t H.size) H1 locs (cells + 1) (slots + N) la hR2 (ext_tr hE hX2) (LRel_ext hX2 hl hL) (lv_cons (Or.inl (by rw [hup_s]; exact fun q => nomatch q)) (fun w hw => ext_lv hX2 (hs w hw))) (fun w hw => ext_lv hX2 (hl w hw)) hz (by omega) (by omega)
theorem J_newI {t : Tg} {N : Nat} {x : Int32} (d : decode (mC M) pc = .ok (.newarray .int, 2)) (hx : x = nI N) (hN : N ≤ 60000000) (hw : Cond.arrayClass .int ∈ GW) (ht : h t = none) (hts : t ≠ tScr) (kk : J X M (pc + 2) ls (vR (some t) :: st) (hup h t (cI 0 N (fun _ => 0))) k n Q) : J X M pc ls (vI x :: st) h (k + 1) (n + N) Q := by
  simp only [J_def] at *
  intro p e R s m args below meth c ψ0 h0 F ψ H locs cells slots la hR hE hL hs hl hz hc hn
  have hts0 := F.2.2.2.2.2.2.1
  have hRR := F.2.2.2.2.2.2.2.2.1
  subst hx
  refine va_newaK (atype := .int) F.1 F.2.1 (hts0 _ hw) rfl d rfl (nI_pos (by omega)) (nI_clamp (by omega)) (by show N * _ ≤ 536870912; simp only [newarray.typeOf, componentBytes]; omega) (by rw [hRR]; omega) (by rw [hRR]; omega) rfl fun H1 cA e1 z1 o1 hAr hNm => ?_
  have hcA : cA = xtc X 0 := Option.some.inj (hNm.symm.trans (F.2.2.2.2.2.2.2.1.1.2 0 _ (tysL_at (xtc X) (by decide))).2)
  subst hcA
  obtain ⟨hR2, hX2⟩ := HR_new hR ht hts z1 o1 (c := cI 0 N (fun _ => 0)) e1 (fun g => trivial)
  rw [show (Value.ref H.size :: st.map (ph ψ)) = (vR (some t) :: st).map (ph (upT ψ t H.size)) by
    rw [List.map_cons, ext_map hX2 (fun v hv => hs v (List.mem_cons_of_mem _ hv))]; show _ = Value.ref (upT ψ t H.size t) :: _; rw [show upT ψ t H.size t = H.size from if_pos rfl]]
  exact kk p e R s m args below meth c ψ0 h0 F (upT ψ t H.size) H1 locs (cells + 1) (slots + N) la hR2 (ext_tr hE hX2) (LRel_ext hX2 hl hL) (lv_cons (Or.inl (by rw [hup_s]; exact fun q => nomatch q)) (fun w hw => ext_lv hX2 (hs w (List.mem_cons_of_mem _ hw)))) (fun w hw => ext_lv hX2 (hl w hw)) hz (by omega) (by omega)
theorem J_newL {t : Tg} {N : Nat} {x : Int32} (d : decode (mC M) pc = .ok (.newarray .long, 2)) (hx : x = nI N) (hN : N ≤ 60000000) (hw : Cond.arrayClass .long ∈ GW) (ht : h t = none) (hts : t ≠ tScr) (kk : J X M (pc + 2) ls (vR (some t) :: st) (hup h t (cL 2 N (fun _ => 0))) k n Q) : J X M pc ls (vI x :: st) h (k + 1) (n + N) Q := by
  simp only [J_def] at *
  intro p e R s m args below meth c ψ0 h0 F ψ H locs cells slots la hR hE hL hs hl hz hc hn
  have hts0 := F.2.2.2.2.2.2.1
  have hRR := F.2.2.2.2.2.2.2.2.1
  subst hx
  refine va_newaK (atype := .long) F.1 F.2.1 (hts0 _ hw) rfl d rfl (nI_pos (by omega)) (nI_clamp (by omega)) (by show N * _ ≤ 536870912; simp only [newarray.typeOf, componentBytes]; omega) (by rw [hRR]; omega) (by rw [hRR]; omega) rfl fun H1 cA e1 z1 o1 hAr hNm => ?_
  have hcA : cA = xtc X 2 := Option.some.inj (hNm.symm.trans (F.2.2.2.2.2.2.2.1.1.2 2 _ (tysL_at (xtc X) (by decide))).2)
  subst hcA
  obtain ⟨hR2, hX2⟩ := HR_new hR ht hts z1 o1 (c := cL 2 N (fun _ => 0)) e1 (fun g => trivial)
  rw [show (Value.ref H.size :: st.map (ph ψ)) = (vR (some t) :: st).map (ph (upT ψ t H.size)) by
    rw [List.map_cons, ext_map hX2 (fun v hv => hs v (List.mem_cons_of_mem _ hv))]; show _ = Value.ref (upT ψ t H.size t) :: _; rw [show upT ψ t H.size t = H.size from if_pos rfl]]
  exact kk p e R s m args below meth c ψ0 h0 F (upT ψ t H.size) H1 locs (cells + 1) (slots + N) la hR2 (ext_tr hE hX2) (LRel_ext hX2 hl hL) (lv_cons (Or.inl (by rw [hup_s]; exact fun q => nomatch q)) (fun w hw => ext_lv hX2 (hs w (List.mem_cons_of_mem _ hw)))) (fun w hw => ext_lv hX2 (hl w hw)) hz (by omega) (by omega)
theorem J_newQ {t : Tg} {K N idx : Nat} {x : Int32} {C : String} (d : decode (mC M) pc = .ok (.anewarray idx, 3)) (hx : x = nI N) (hN : N ≤ 60000000) (hk : K < 7) (hkC : aTy K = .object C) (hw : Cond.classLink (mN M).cls idx C ∈ GW) (ho : C ∈ aoL) (ht : h t = none) (hts : t ≠ tScr) (kk : J X M (pc + 3) ls (vR (some t) :: st) (hup h t (cQ K N (fun _ => none))) k n Q) : J X M pc ls (vI x :: st) h (k + 1) (n + N) Q := by
  simp only [J_def] at *
  intro p e R s m args below meth c ψ0 h0 F ψ H locs cells slots la hR hE hL hs hl hz hc hn
  have hts0 := F.2.2.2.2.2.2.1
  have hRR := F.2.2.2.2.2.2.2.2.1
  subst hx
  have hNN : (nI N).toNatClampNeg = N := nI_clamp (by omega)
  refine W.anew F.1 F.2.1 F.2.2.2.2.2.1 (hts0 _ hw) (va_AO.use (F.2.2.2.2.2.2.2.1.2.2.2.1 C ho)) rfl d rfl (nI_pos (by omega)) (by rw [hNN]; omega) (by rw [hRR]; omega) (by rw [hNN, hRR]; omega) fun cA kA comp f1 f2 f3 f4 => ?_
  rw [hNN]
  have hra := (F.2.2.2.2.2.2.2.1.1.2 K _ (tysL_at (xtc X) hk)).2
  rw [hkC] at hra
  obtain ⟨_, _, _, _, _, k4⟩ := hra
  have hcA : cA = xtc X K := Option.some.inj (f1.symm.trans k4)
  subst hcA
  generalize hH1 : H.push ({ cls := xtc X K, slots := Array.replicate N .null, vm := .none } : Cell) = H1
  have z1 : H1.size = H.size + 1 := by rw [← hH1, Array.size_push]
  have e1 : H1[H.size]? = some (arrV (xtc X K) N (fun _ => .null)) := by rw [← hH1, Array.getElem?_push_size, ← arrV_new]
  have o1 : ∀ q : Nat, q < H.size → H1[q]? = H[q]? := fun q hq => by rw [← hH1, Array.getElem?_push, if_neg (Nat.ne_of_lt hq)]
  obtain ⟨hR2, hX2⟩ := HR_new hR ht hts z1 o1 (c := cQ K N (fun _ => none)) e1 (fun g j u hu => nomatch hu)
  rw [show (Value.ref H.size :: st.map (ph ψ)) = (vR (some t) :: st).map (ph (upT ψ t H.size)) by
    rw [List.map_cons, ext_map hX2 (fun v hv => hs v (List.mem_cons_of_mem _ hv))]; show _ = Value.ref (upT ψ t H.size t) :: _; rw [show upT ψ t H.size t = H.size from if_pos rfl]]
  exact kk p e R s m args below meth c ψ0 h0 F (upT ψ t H.size) H1 locs (cells + 1) (slots + N) la hR2 (ext_tr hE hX2) (LRel_ext hX2 hl hL) (lv_cons (Or.inl (by rw [hup_s]; exact fun q => nomatch q)) (fun w hw => ext_lv hX2 (hs w (List.mem_cons_of_mem _ hw)))) (fun w hw => ext_lv hX2 (hl w hw)) hz (by omega) (by omega)
/-- the script -/
theorem J_slen (d : decode (mC M) pc = .ok (.arraylength, 1)) (kk : J X M (pc + 1) ls (vI (Int32.ofNat (xL X)) :: st) h k n Q) : J X M pc ls (vR (some tScr) :: st) h k n Q := by
  simp only [J_def] at *
  intro p e R s m args below meth c ψ0 h0 F ψ H locs cells slots la hR hE hL hs hl hz hc hn
  obtain ⟨-, -, g3, g4, g5, g6, g7⟩ := id hR
  obtain ⟨scr, q1, q2, q3, q4, q5⟩ := F.2.2.2.2.2.2.2.1.2.2.2.2.2.2.2.1
  have hcell : H[ψ tScr]? = some scr := by rw [g3, g7 _ g5]; exact q1
  refine W.alen F.1 F.2.1 hcell q2 (n := Int32.ofNat (xL X)) (by rw [q4]) rfl rfl d ?_
  exact kk p e R s m args below meth c ψ0 h0 F ψ H locs cells slots la hR hE hL (lv_cons trivial (fun v hv => hs v (List.mem_cons_of_mem _ hv))) hl hz hc hn
theorem J_sld {i : Int32} {j : Nat} (d : decode (mC M) pc = .ok (.iaload, 1)) (hi : ix i (xL X) j) (kk : J X M (pc + 1) ls (vI (xs X j) :: st) h k n Q) : J X M pc ls (vI i :: vR (some tScr) :: st) h k n Q := by
  simp only [J_def] at *
  intro p e R s m args below meth c ψ0 h0 F ψ H locs cells slots la hR hE hL hs hl hz hc hn
  obtain ⟨-, -, g3, g4, g5, g6, g7⟩ := id hR
  obtain ⟨scr, q1, q2, q3, q4, q5⟩ := F.2.2.2.2.2.2.2.1.2.2.2.2.2.2.2.1
  have hcell : H[ψ tScr]? = some scr := by rw [g3, g7 _ g5]; exact q1
  have hlt := ix_lt hi
  obtain ⟨hin, hj⟩ := hi
  refine W.iald (v := .int (xs X j)) F.1 F.2.1 hcell q2 q3 (by rw [q4]; exact hin) (by rw [hj]; exact q5 j hlt) rfl rfl d ?_
  exact kk p e R s m args below meth c ψ0 h0 F ψ H locs cells slots la hR hE hL (lv_cons trivial (fun v hv => hs v (List.mem_cons_of_mem _ (List.mem_cons_of_mem _ hv)))) hl hz hc hn
/-- Object.<init> -/
theorem J_obj {t : Tg} {idx : Nat} (d : decode (mC M) pc = .ok (.invokespecial idx, 3)) (hw1 : Cond.methodLink (mN M).cls idx Lib.objectInit ∈ GW) (hw2 : Cond.instanceMethod Lib.objectInit ∈ GW) (hw3 : Cond.code Lib.objectInit ⟨#[0xb1]⟩ 1 none ∈ GW) (hf : 1 ≤ (mR M).frames) (hlo : 12 ≤ (mR M).locals) (kk : J X M (pc + 3) ls [] h k n Q) : J X M pc ls [vR (some t)] h k n Q := by
  simp only [J_def] at *
  intro p e R s m args below meth c ψ0 h0 F ψ H locs cells slots la hR hE hL hs hl hz hc hn
  have hts0 := F.2.2.2.2.2.2.1
  have hRR := F.2.2.2.2.2.2.2.2.1
  refine W.objInit (a := ψ t) (rest := []) F.1 F.2.1 F.2.2.2.2.2.1 (hts0 _ hw1) (hts0 _ hw2) (hts0 _ hw3) rfl (by show la.size = _; rw [hL.1, F.2.2.1]) rfl d (by rw [hRR]; exact hf) (by rw [hRR]; show 2 * 0 + 0 + 12 ≤ _; omega) ?_
  exact kk p e R s m args below meth c ψ0 h0 F ψ H locs cells slots la hR hE hL (fun v hv => nomatch hv) hl hz hc hn
/-- the ends -/
theorem J_iret {x : Int32} (d : decode (mC M) pc = .ok (.ireturn, 1)) (hT : mT M = some .int) (hq : Q (rt (vI x)) h) : J X M pc ls [vI x] h k n Q := by
  simp only [J_def] at *
  intro p e R s m args below meth c ψ0 h0 F ψ H locs cells slots la hR hE hL hs hl hz hc hn
  refine W.widen (k := (mR M).cells) (n := (mR M).slots) (by omega) (by omega) (vx_ret ?_)
  exact W.iret F.1 F.2.1 (F.2.2.2.1.trans hT) (fun t ht hW => ⟨some (vI x), h, ψ, rfl, hq, by rw [ht]; exact hR, hE, fun w hw => by cases hw; trivial⟩) hz d F.2.2.2.2.1
theorem J_zret {x : Int32} (d : decode (mC M) pc = .ok (.ireturn, 1)) (hT : mT M = some .boolean) (hx : xzb x) (hq : Q (rt (vI x)) h) : J X M pc ls [vI x] h k n Q := by
  simp only [J_def] at *
  intro p e R s m args below meth c ψ0 h0 F ψ H locs cells slots la hR hE hL hs hl hz hc hn
  refine W.widen (k := (mR M).cells) (n := (mR M).slots) (by omega) (by omega) (vx_ret ?_)
  exact W.zret F.1 F.2.1 (F.2.2.2.1.trans hT) (xzb_nar hx) (fun t ht hW => ⟨some (vI x), h, ψ, rfl, hq, by rw [ht]; exact hR, hE, fun w hw => by cases hw; trivial⟩) hz d F.2.2.2.2.1
theorem J_vret (d : decode (mC M) pc = .ok (.return_, 1)) (hT : mT M = none) (hq : Q rv h) : J X M pc ls [] h k n Q := by
  simp only [J_def] at *
  intro p e R s m args below meth c ψ0 h0 F ψ H locs cells slots la hR hE hL hs hl hz hc hn
  refine W.widen (k := (mR M).cells) (n := (mR M).slots) (by omega) (by omega) (vx_ret ?_)
  exact W.vret F.1 F.2.1 (F.2.2.2.1.trans hT) (fun t ht hW => ⟨none, h, ψ, rfl, hq, by rw [ht]; exact hR, hE, fun w hw => nomatch hw⟩) hz d F.2.2.2.2.1
theorem J_aret {r : Option Tg} {C : String} (d : decode (mC M) pc = .ok (.areturn, 1)) (hT : mT M = some (.object C)) (hq : Q (rt (vR r)) h) : J X M pc ls [vR r] h k n Q := by
  simp only [J_def] at *
  intro p e R s m args below meth c ψ0 h0 F ψ H locs cells slots la hR hE hL hs hl hz hc hn
  refine W.widen (k := (mR M).cells) (n := (mR M).slots) (by omega) (by omega) (vx_ret ?_)
  exact W.aret F.1 F.2.1 (F.2.2.2.1.trans hT) (Or.inl ⟨C, rfl⟩) (by cases r with
    | none => exact Or.inl rfl
    | some t => exact Or.inr ⟨ψ t, rfl⟩) (fun t ht hW => ⟨some (vR r), h, ψ, rfl, hq, by rw [ht]; exact hR, hE, fun w hw => by cases hw; exact hs _ List.mem_cons_self⟩) hz d F.2.2.2.2.1
end JA
end
section
/-! A METHOD'S ENTRY, CALLS, THROWS AND CATCHES -/
theorem args_in (ψ : Tg → Nat) : ∀ (as : List LV) (i j : Nat) (v : LV), as.all c1 = true → as[j]? = some v → (i + j, ph ψ v) ∈ lv_args i (as.map (ph ψ)) := by
  intro as
  induction as with
  | nil => intro i j v _ h; simp at h
  | cons w as ih =>
    intro i j v hc h
    simp only [List.all_cons, Bool.and_eq_true] at hc
    have hcat : (ph ψ w).category = 1 := c1_cat hc.1
    show _ ∈ (i, ph ψ w) :: lv_args (if (ph ψ w).category = 2 then i + 2 else i + 1) (as.map (ph ψ))
    rw [hcat, if_neg (by decide)]
    cases j with
    | zero => simp at h; subst h; exact List.mem_cons_self
    | succ j =>
      rw [List.getElem?_cons_succ] at h
      have := ih (i + 1) j v hc.2 h
      rw [show i + 1 + j = i + (j + 1) by omega] at this
      exact List.mem_cons_of_mem _ this
theorem sl_len (ψ : Tg → Nat) (as : List LV) (hc : as.all c1 = true) : (lg_sl (as.map (ph ψ))).length = as.length := by
  induction as with
  | nil => rfl
  | cons w as ih =>
    simp only [List.all_cons, Bool.and_eq_true] at hc
    have hcat : (ph ψ w).category = 1 := c1_cat hc.1
    have h1 := ih hc.2
    unfold lg_sl at h1 ⊢
    rw [List.map_cons, List.flatMap_cons, hcat, if_neg (by decide), List.length_append, h1]
    simp [Nat.add_comm]
theorem CT_of {X : GX} {M : MI} {as : List LV} {h : LH} {Q : LO → LH → Prop} (hy : plainName (mN M).cls = true) (hc : as.all c1 = true) (hlen : as.length ≤ mL M)
    (body : J X M 0 (as.map some ++ List.replicate (mL M - as.length) none) [] h (mR M).cells (mR M).slots Q) : CT X M as h Q := by
  rw [J_def] at body
  intro ψ
  have main : ∀ p e s m args below meth c s₁, BodyLoose p (xl X) (mN M) (headSpec (wsO M) (mR M)) (mC M) (mL M) (mT M) e s m args below meth c s₁ → c.maxLocals = mL M → c.exceptionTable.toList = tableOf (mH M) → va_Pc (as.map (ph ψ)) (fun U => KK X U ∧ HR X ψ h U.heap ∧ ∀ v ∈ as, Lv h v) args s →
      W p (xl X) e (headSpec (wsO M) (mR M)).room s m args below meth c s.heap [] 0 0 (vx_MQ below (QR X ψ h Q) (QX X ψ h Q) args s (mR M).cells (mR M).slots (xA X)) (entryFrame m args (mL M)) := by
    intro p e s m args below meth c s₁ B hml htab hP
    obtain ⟨rfl, hK, hR, hA⟩ := hP
    have hts := atoms_spec (ws := wsO M) B.pre
    have F : FOK X M p (mR M) s m (as.map (ph ψ)).toArray meth c := ⟨B.exec, B.bytes, hml, B.returns, B.notSynchronized, findClass_of_methodNamed B.named, fun w hw => hts w (List.mem_cons_of_mem _ hw), hK, rfl, htab, (name_of_methodNamed B.named B.method).1, hR.2.2.2.2.2.1, hR.2.2.2.2.2.2⟩
    have hl := lv_entry (as.map (ph ψ)) (n := mL M) (by rw [sl_len ψ as hc]; exact hlen)
    rw [lg_entry_eq]
    refine body p e _ s m _ below meth c ψ h F ψ s.heap [] 0 0 _ hR ext_rf ⟨hl.1, hl.2.1, fun i v hv => ?_⟩ (fun v hv => nomatch hv) (fun v hv => ?_) (fun z hz => nomatch hz) (by omega) (by omega)
    · by_cases hi : i < as.length
      · rw [List.getElem?_append_left (by simpa using hi), List.getElem?_map] at hv
        cases hw : as[i]? with
        | none => rw [hw] at hv; cases hv
        | some w =>
          rw [hw] at hv
          cases hv
          have h1 := hl.2.2 (0 + i, ph ψ v) (args_in ψ as 0 i v hc hw)
          rw [Nat.zero_add] at h1
          exact h1
      · rw [List.getElem?_append_right (by simpa using hi)] at hv
        have := List.mem_of_getElem? hv
        have h2 := (List.mem_replicate.mp this).2
        cases h2
    · rcases List.mem_append.mp hv with h1 | h1
      · obtain ⟨w, hw, e⟩ := List.mem_map.mp h1
        cases e
        exact hA v hw
      · have h2 := (List.mem_replicate.mp h1).2
        cases h2
  by_cases hh : (mH M).isEmpty = true
  · refine vx_ofW (cc := mC M) (maxL := mL M) (ret := mT M) hy (ws' := GW) (by unfold wsO; rw [if_pos hh]) fun p e s m args below meth c s₁ B hml ht hP => main p e s m args below meth c s₁ B hml ?_ hP
    have h1 : mH M = [] := List.isEmpty_iff.mp hh
    rw [h1]
    cases hx : c.exceptionTable.toList with
    | nil => rfl
    | cons x xs => exact (ht x (by rw [hx]; exact List.mem_cons_self)).elim
  · refine vx_ofWH (cc := mC M) (maxL := mL M) (ret := mT M) (hh := mH M) hy (ws' := GW) (by unfold wsO; rw [if_neg hh]) fun p e s m args below meth c s₁ B hml hP => main p e s m args below meth c s₁ B hml ?_ hP
    have hts := atoms_spec (ws := wsO M) B.pre
    refine vx_table (x := mN M) (bytes := mC M) (maxL' := mL M) (ret' := mT M) (hh := mH M) B (hts _ ?_)
    unfold wsO
    rw [if_neg hh]
    exact List.mem_cons_self
theorem GW_good {w : Cond} (h : w ∈ GW) : (w.onTables && w.keeps) = true ∨ ∃ ty, w = .arrayClass ty := good_of_word (List.mem_filter.mp h).2
theorem GW_of {w : Cond} {i : Nat} (h : lw_tbl[i]? = some w) (hg : goodWord w = true) : w ∈ GW := List.mem_filter.mpr ⟨List.mem_of_getElem? h, hg⟩
theorem EW_of {w : Cond} {i : Nat} (h : lw_tbl[i]? = some w) (hg : mvWord w = true) : w ∈ EW := List.mem_filter.mpr ⟨List.mem_of_getElem? h, hg⟩
/-- a callee whose code stands in the tables -/
def KI (M : MI) (n : Nat) : Prop := (mH M) = [] ∧ Cond.code (mN M) (mC M) (mL M) (mT M) ∈ GW ∧ Cond.initialized (mN M).cls ∈ GW ∧ ((mN M).cls ≠ "java/lang/invoke/MethodHandle" ∧ (mN M).cls ≠ "java/lang/invoke/VarHandle") ∧ (parseMethodDescriptor (mN M).desc).map (fun d => d.parameters.length) = some n
theorem KI_good {M : MI} {n : Nat} (f : KI M n) : GoodIn GW (wsO M) ∧ wsO M = Cond.code (mN M) (mC M) (mL M) (mT M) :: GW := by
  have e : wsO M = Cond.code (mN M) (mC M) (mL M) (mT M) :: GW := by unfold wsO; rw [f.1]; rfl
  refine ⟨fun w hw => ?_, e⟩
  rw [e] at hw
  rcases List.mem_cons.mp hw with rfl | hw
  · exact ⟨f.2.1, GW_good f.2.1⟩
  · exact ⟨hw, GW_good hw⟩
theorem cat_sum (ψ : Tg → Nat) : ∀ st : List LV, ((st.map (ph ψ)).map fun v => v.category).sum ≤ 2 * st.length := by
  intro st
  induction st with
  | nil => simp
  | cons v st ih =>
    have h1 : (ph ψ v).category ≤ 2 := by rcases lv_cat (ph ψ v) with h | h <;> omega
    simp only [List.map_cons, List.sum_cons, List.length_cons]
    omega
/-- the room of a callee -/
def rmOK (M M' : MI) : Prop := (mR M').frames + 1 ≤ (mR M).frames ∧ 8 + (mL M' + 11) + (mR M').locals ≤ (mR M).locals
theorem Pc_blind {X : GX} {ψ : Tg → Nat} {h : LH} {as : List LV} : FrameBlind (va_Pc (as.map (ph ψ)) (fun U => KK X U ∧ HR X ψ h U.heap ∧ ∀ v ∈ as, Lv h v)) := fun a U g mk q => ⟨q.1, KK.warm (s := U) (U := U.calling g mk a) (State.WarmedH.refl U) q.2.1, q.2.2.1, q.2.2.2⟩
section JC
variable {X : GX} {M M' : MI} {pc : Nat} {ls : List (Option LV)} {rest st as : List LV} {h : LH} {k n k' n' : Nat} {Q : LO → LH → Prop} {P : Option LV → LH → Prop}
/-- behind a call that returns -/
theorem back_call {st0 : List Value} {p : Program} {e : Env} {R : Room} {s : State} {m : MethodId} {args : Array Value} {below : List Frame} {meth : Method} {c : Code} {ψ0 ψ : Tg → Nat} {h0 : LH} {H : Heap} {locs : List Loc} {cells slots : Nat} {la : Array Slot} {a : Array Value}
    (hr : va_Run p (xl X) e R s m args below meth c H locs cells slots (mR M').cells (mR M').slots (F0 m pc la st0) (rest.map (ph ψ)) (QR X ψ h (rQ P) a) (xA X))
    (F : FOK X M p R s m args meth c) (hE : ext ψ0 ψ h0 h) (hL : LRel ψ ls la (mL M)) (hs : ∀ v ∈ rest, Lv h v) (hl : ∀ v, some v ∈ ls → Lv h v) (hz : ∀ z ∈ locs, xA X z.base) (hc : cells + (mR M').cells + k' ≤ (mR M).cells) (hn : slots + (mR M').slots + n' ≤ (mR M).slots)
    (kk : ∀ v h', P v h' → J0 X M (pc + 3) ls (v.toList ++ rest) h' k' n' Q) :
    W p (xl X) e R s m args below meth c H locs cells slots (vx_MQ below (QR X ψ0 h0 Q) (QX X ψ0 h0 Q) args s (mR M).cells (mR M).slots (xA X)) (F0 m pc la st0) := by
  intro T hT Y
  obtain ⟨v, st₀, t, T', L, g0, Y', hLo, e1, e2, ⟨v', h', ψ', hv, hP, hR', hE', hlv⟩, st⟩ := hr T hT Y
  cases hv
  have hgo := kk v' h' hP p e R s m args below meth c ψ0 h0 F ψ' T'.heap (locs ++ L) (cells + (mR M').cells) (slots + (mR M').slots) la (by rw [e1]; exact hR') (ext_tr hE hE') (LRel_ext hE' hl hL)
    (fun w hw => by
      rcases List.mem_append.mp hw with q | q
      · exact hlv w (by simpa using q)
      · exact ext_lv hE' (hs w q)) (fun w hw => ext_lv hE' (hl w hw)) (fun z q => by
      rcases List.mem_append.mp q with q | q
      · exact hz z q
      · exact hLo z q) hc hn
  obtain ⟨t2, a1, b1⟩ := hgo T' rfl Y'
  refine ⟨t2, st t2 ?_, b1⟩
  have e3 : (v'.toList ++ rest).map (ph ψ') = (v'.map (ph ψ')).toList ++ rest.map (ph ψ) := by
    rw [List.map_append, ext_map hE' hs]
    cases v' <;> rfl
  rw [e3] at a1
  exact a1
def WI (own : String) (idx : Nat) (M' : MI) (n : Nat) : Prop := mH M' ≠ [] ∧ Cond.codeWith (mN M') (mC M') (mL M') (mT M') (mH M') ∈ GW ∧ Cond.initialized (mN M').cls ∈ GW ∧ ((mN M').cls ≠ "java/lang/invoke/MethodHandle" ∧ (mN M').cls ≠ "java/lang/invoke/VarHandle") ∧ Cond.methodLink own idx (mN M') ∈ GW ∧ Cond.static (mN M') ∈ GW ∧ (parseMethodDescriptor (mN M').desc).map (fun d => d.parameters.length) = some n
/-- the handler that takes kind kq, thrown at pc: at hp it is stored in the local i -/
def HI (M : MI) (pc kq hp i len : Nat) : Prop := ∃ (pre : List (Nat × Nat × Nat × Nat)) (x : Nat × Nat × Nat × Nat) (suf : List (Nat × Nat × Nat × Nat)), mH M = pre ++ x :: suf ∧
  (∀ z ∈ pre, covers ⟨z.1, z.2.1, z.2.2.1, z.2.2.2⟩ pc = false ∨ (z.2.2.2 ≠ 0 ∧ ∃ nm : String, Cond.classLink (mN M).cls z.2.2.2 nm ∈ GW ∧ (exN kq, nm) ∈ ncL)) ∧
  covers ⟨x.1, x.2.1, x.2.2.1, x.2.2.2⟩ pc = true ∧ x.2.2.2 ≠ 0 ∧ Cond.classLink (mN M).cls x.2.2.2 (exN kq) ∈ GW ∧ Cond.castable (exN kq) (exN kq) ∈ EW ∧ x.2.2.1 = hp ∧ i < mL M ∧
  ((∃ i' : Fin 4, (i' : Nat) = i ∧ decode (mC M) hp = .ok (.astore_n i', 1) ∧ len = 1) ∨ (decode (mC M) hp = .ok (.astore i, 2) ∧ len = 2))
def VI (own : String) (idx : Nat) (M' : MI) (n ci : Nat) : Prop := KI M' n ∧ Cond.methodLink own idx (mN M') ∈ GW ∧ Cond.instanceMethod (mN M') ∈ GW ∧ Cond.selects (mN M').cls (mN M') (mN M') ∈ GW ∧ ∃ (T : u_T) (N : Nat), vwCl[ci]? = some ((mN M').cls, T, N)
def SI (own : String) (idx : Nat) (M' : MI) (n : Nat) : Prop := KI M' n ∧ Cond.methodLink own idx (mN M') ∈ GW ∧ Cond.static (mN M') ∈ GW
def II (own : String) (idx : Nat) (M' : MI) (n : Nat) : Prop := KI M' n ∧ Cond.methodLink own idx (mN M') ∈ GW ∧ Cond.instanceMethod (mN M') ∈ GW ∧ (mN M').name = "<init>"
def IN (own : String) (idx : Nat) (M' : MI) (n : Nat) (host : String) : Prop := KI M' n ∧ Cond.methodLinkNest own idx (mN M') host ∈ EW ∧ Cond.instanceMethod (mN M') ∈ GW ∧ (mN M').name = "<init>"
theorem recv {X : GX} {M : MI} {p : Program} {R : Room} {s : State} {m : MethodId} {args : Array Value} {meth : Method} {c : Code} (F : FOK X M p R s m args meth c) {ψ : Tg → Nat} {h : LH} {H : Heap} (hR : HR X ψ h H) {t : Tg} {ci : Nat} {fs : List LV} (hh : h t = some (cO ci fs)) {C : String} {T : u_T} {N : Nat} (hcl : vwCl[ci]? = some (C, T, N)) :
    ∃ cellB : Cell, H[ψ t]? = some cellB ∧ cellB.vm.isStatics = false ∧ s.vm.findClass C = some cellB.cls := by
  obtain ⟨r, h1, cell, q1, q2, q3, q4⟩ := HR_at hR hh
  have hr : r = (C, T, N) := Option.some.inj (h1.symm.trans hcl)
  subst hr
  exact ⟨cell, q1, by rw [q3]; rfl, by rw [q2]; exact (F.2.2.2.2.2.2.2.1.1.1 ci _ hcl).2.1⟩
theorem J_callV {t : Tg} {idx ci : Nat} {fs : List LV} (d : decode (mC M) pc = .ok (.invokevirtual idx, 3)) (f : VI (mN M).cls idx M' as.length ci) (hrm : rmOK M M') (hh : h t = some (cO ci fs)) (hst : st = as.reverse ++ vR (some t) :: rest) (hlen : rest.length ≤ 4) (hk : k' + (mR M').cells ≤ k) (hn' : n' + (mR M').slots ≤ n)
    (hc : CT X M' (vR (some t) :: as) h (rQ P)) (kk : ∀ v h', P v h' → J X M (pc + 3) ls (v.toList ++ rest) h' k' n' Q) : J X M pc ls st h k n Q := by
  simp only [J_def] at *
  intro p e R s m args below meth c ψ0 h0 F ψ H locs cells slots la hR hE hL hs hl hz hcc hnn
  subst hst
  obtain ⟨f1, f2, f3, f4, T, N, f5⟩ := f
  obtain ⟨hG, hws⟩ := KI_good f1
  have hts := F.2.2.2.2.2.2.1
  have hRR := F.2.2.2.2.2.2.2.2.1
  have cw : CallW R s args (mN M).cls (mN M').cls idx (mN M') (mC M') (mL M') (mT M') (wsO M') (mR M') (mR M').cells (mR M').slots as.length :=
    ⟨callB_of as.length hts hG hws rfl rfl (hts _ f1.2.2.1) (hts _ f2) ⟨f1.2.2.2.1.1, f1.2.2.2.1.2, f1.2.2.2.2⟩ (by rw [hRR]; exact hrm), hts _ f3, hts _ f4⟩
  have hrest : ∀ v ∈ rest, Lv h v := fun v hv => hs v (List.mem_append_right _ (List.mem_cons_of_mem _ hv))
  have hargs : ∀ v ∈ vR (some t) :: as, Lv h v := fun v hv => by
    rcases List.mem_cons.mp hv with rfl | hv
    · exact hs _ (List.mem_append_right _ List.mem_cons_self)
    · exact hs v (List.mem_append_left _ (List.mem_reverse.mpr hv))
  have hr := va_runV (cells := cells) (slots := slots) (locs := locs) (p := p) (l := xl X) (e := e) (below := below) (meth := meth) (b := ψ t) (As := as.map (ph ψ)) (rest := rest.map (ph ψ)) (g := F0 m pc la ((as.reverse ++ vR (some t) :: rest).map (ph ψ))) ⟨F.1, F.2.1, F.2.2.1, F.2.2.2.2.2.1, hts⟩ (CT.met hc ψ) cw
    ⟨Pc_blind (as := vR (some t) :: as), recv F hR hh f5, fun U hU hW => ⟨rfl, KK.warm hW F.2.2.2.2.2.2.2.1, by rw [hU]; exact hR, hargs⟩⟩ rfl (by rw [List.length_map]) hL.1 (by
      show (as.reverse ++ vR (some t) :: rest).map (ph ψ) = _
      rw [List.map_append, List.map_reverse, List.map_cons]; rfl) (by
      have := cat_sum ψ rest
      show 2 * 0 + _ ≤ 8
      omega) d (by rw [hRR]; omega)
  exact back_call hr F hE hL hrest hl hz (by omega) (by omega) kk
theorem J_callS {idx : Nat} (d : decode (mC M) pc = .ok (.invokestatic idx, 3)) (f : SI (mN M).cls idx M' as.length) (hrm : rmOK M M') (hst : st = as.reverse ++ rest) (hlen : rest.length ≤ 4) (hk : k' + (mR M').cells ≤ k) (hn' : n' + (mR M').slots ≤ n)
    (hc : CT X M' as h (rQ P)) (kk : ∀ v h', P v h' → J X M (pc + 3) ls (v.toList ++ rest) h' k' n' Q) : J X M pc ls st h k n Q := by
  simp only [J_def] at *
  intro p e R s m args below meth c ψ0 h0 F ψ H locs cells slots la hR hE hL hs hl hz hcc hnn
  subst hst
  obtain ⟨f1, f2, f3⟩ := f
  obtain ⟨hG, hws⟩ := KI_good f1
  have hts := F.2.2.2.2.2.2.1
  have hRR := F.2.2.2.2.2.2.2.2.1
  have cb : CallB R s args (mN M).cls idx (mN M') (mC M') (mL M') (mT M') (wsO M') (mR M') (mR M').cells (mR M').slots as.length :=
    callB_of as.length hts hG hws rfl rfl (hts _ f1.2.2.1) (hts _ f2) ⟨f1.2.2.2.1.1, f1.2.2.2.1.2, f1.2.2.2.2⟩ (by rw [hRR]; exact hrm)
  have hrest : ∀ v ∈ rest, Lv h v := fun v hv => hs v (List.mem_append_right _ hv)
  have hargs : ∀ v ∈ as, Lv h v := fun v hv => hs v (List.mem_append_left _ (List.mem_reverse.mpr hv))
  have hr := va_runS (cells := cells) (slots := slots) (locs := locs) (p := p) (l := xl X) (e := e) (below := below) (meth := meth) (As := as.map (ph ψ)) (rest := rest.map (ph ψ)) (g := F0 m pc la ((as.reverse ++ rest).map (ph ψ))) ⟨F.1, F.2.1, F.2.2.1, F.2.2.2.2.2.1, hts⟩ (CT.met hc ψ) ⟨cb, hts _ f3⟩
    ⟨Pc_blind, fun U hU hW => ⟨rfl, KK.warm hW F.2.2.2.2.2.2.2.1, by rw [hU]; exact hR, hargs⟩⟩ rfl (by rw [List.length_map]) hL.1 (by
      show (as.reverse ++ rest).map (ph ψ) = _
      rw [List.map_append, List.map_reverse]) (by
      have := cat_sum ψ rest
      show 2 * 0 + _ ≤ 8
      omega) d (by rw [hRR]; omega)
  exact back_call hr F hE hL hrest hl hz (by omega) (by omega) kk
theorem J_callI {t : Tg} {idx : Nat} (d : decode (mC M) pc = .ok (.invokespecial idx, 3)) (f : II (mN M).cls idx M' as.length) (hT : mT M' = none) (hrm : rmOK M M') (hst : st = as.reverse ++ vR (some t) :: rest) (hlen : rest.length ≤ 4) (hk : k' + (mR M').cells ≤ k) (hn' : n' + (mR M').slots ≤ n)
    (hc : CT X M' (vR (some t) :: as) h (rQ P)) (kk : ∀ v h', P v h' → J X M (pc + 3) ls (v.toList ++ rest) h' k' n' Q) : J X M pc ls st h k n Q := by
  simp only [J_def] at *
  intro p e R s m args below meth c ψ0 h0 F ψ H locs cells slots la hR hE hL hs hl hz hcc hnn
  subst hst
  obtain ⟨f1, f2, f3, f4⟩ := f
  obtain ⟨hG, hws⟩ := KI_good f1
  have hts := F.2.2.2.2.2.2.1
  have hRR := F.2.2.2.2.2.2.2.2.1
  rw [hT] at hws
  have cb : CallB R s args (mN M).cls idx (mN M') (mC M') (mL M') none (wsO M') (mR M') (mR M').cells (mR M').slots as.length :=
    callB_of as.length hts hG hws rfl rfl (hts _ f1.2.2.1) (hts _ f2) ⟨f1.2.2.2.1.1, f1.2.2.2.1.2, f1.2.2.2.2⟩ (by rw [hRR]; exact hrm)
  have hrest : ∀ v ∈ rest, Lv h v := fun v hv => hs v (List.mem_append_right _ (List.mem_cons_of_mem _ hv))
  have hargs : ∀ v ∈ vR (some t) :: as, Lv h v := fun v hv => by
    rcases List.mem_cons.mp hv with rfl | hv
    · exact hs _ (List.mem_append_right _ List.mem_cons_self)
    · exact hs v (List.mem_append_left _ (List.mem_reverse.mpr hv))
  have hr := va_runI (cells := cells) (slots := slots) (locs := locs) (p := p) (l := xl X) (e := e) (below := below) (meth := meth) (b := ψ t) (As := as.map (ph ψ)) (rest := rest.map (ph ψ)) (g := F0 m pc la ((as.reverse ++ vR (some t) :: rest).map (ph ψ))) ⟨F.1, F.2.1, F.2.2.1, F.2.2.2.2.2.1, hts⟩ (CT.met hc ψ) ⟨cb, f4, hts _ f3⟩
    ⟨Pc_blind (as := vR (some t) :: as), fun U hU hW => ⟨rfl, KK.warm hW F.2.2.2.2.2.2.2.1, by rw [hU]; exact hR, hargs⟩⟩ rfl (by rw [List.length_map]) hL.1 (by
      show (as.reverse ++ vR (some t) :: rest).map (ph ψ) = _
      rw [List.map_append, List.map_reverse, List.map_cons]; rfl) (by
      have := cat_sum ψ rest
      show 2 * 0 + _ ≤ 8
      omega) d (by rw [hRR]; omega)
  exact back_call hr F hE hL hrest hl hz (by omega) (by omega) kk
theorem J_callN {t : Tg} {idx : Nat} {host : String} (d : decode (mC M) pc = .ok (.invokespecial idx, 3)) (f : IN (mN M).cls idx M' as.length host) (hT : mT M' = none) (hrm : rmOK M M') (hst : st = as.reverse ++ vR (some t) :: rest) (hlen : rest.length ≤ 4) (hk : k' + (mR M').cells ≤ k) (hn' : n' + (mR M').slots ≤ n)
    (hc : CT X M' (vR (some t) :: as) h (rQ P)) (kk : ∀ v h', P v h' → J X M (pc + 3) ls (v.toList ++ rest) h' k' n' Q) : J X M pc ls st h k n Q := by
  simp only [J_def] at *
  intro p e R s m args below meth c ψ0 h0 F ψ H locs cells slots la hR hE hL hs hl hz hcc hnn
  subst hst
  obtain ⟨f1, f2, f3, f4⟩ := f
  obtain ⟨hG, hws⟩ := KI_good f1
  have hts := F.2.2.2.2.2.2.1
  have hRR := F.2.2.2.2.2.2.2.2.1
  rw [hT] at hws
  have cb : va_CN R s args (mN M).cls idx (mN M') host (mC M') (mL M') none (wsO M') (mR M') (mR M').cells (mR M').slots as.length :=
    va_cnB as.length hts hG hws rfl rfl (F.2.2.2.2.2.2.2.1.2.2.1 _ f2) (hts _ f1.2.2.1) ⟨f1.2.2.2.1.1, f1.2.2.2.1.2, f1.2.2.2.2⟩ (by rw [hRR]; exact hrm)
  have hrest : ∀ v ∈ rest, Lv h v := fun v hv => hs v (List.mem_append_right _ (List.mem_cons_of_mem _ hv))
  have hargs : ∀ v ∈ vR (some t) :: as, Lv h v := fun v hv => by
    rcases List.mem_cons.mp hv with rfl | hv
    · exact hs _ (List.mem_append_right _ List.mem_cons_self)
    · exact hs v (List.mem_append_left _ (List.mem_reverse.mpr hv))
  have hr := va_runIN (cells := cells) (slots := slots) (locs := locs) (p := p) (l := xl X) (e := e) (below := below) (meth := meth) (b := ψ t) (As := as.map (ph ψ)) (rest := rest.map (ph ψ)) (g := F0 m pc la ((as.reverse ++ vR (some t) :: rest).map (ph ψ))) ⟨F.1, F.2.1, F.2.2.1, F.2.2.2.2.2.1, hts⟩ (CT.met hc ψ) ⟨cb, f4, hts _ f3⟩
    ⟨Pc_blind (as := vR (some t) :: as), fun U hU hW => ⟨rfl, KK.warm hW F.2.2.2.2.2.2.2.1, by rw [hU]; exact hR, hargs⟩⟩ rfl (by rw [List.length_map]) hL.1 (by
      show (as.reverse ++ vR (some t) :: rest).map (ph ψ) = _
      rw [List.map_append, List.map_reverse, List.map_cons]; rfl) (by
      have := cat_sum ψ rest
      show 2 * 0 + _ ≤ 8
      omega) d (by rw [hRR]; omega)
  exact back_call hr F hE hL hrest hl hz (by omega) (by omega) kk
/-- behind a call that returns, or throws -/
theorem J_callW {idx : Nat} (d : decode (mC M) pc = .ok (.invokestatic idx, 3)) (f : WI (mN M).cls idx M' as.length) (hrm : rmOK M M') (hst : st = as.reverse ++ rest) (hlen : rest.length ≤ 4) (hk : k' + (mR M').cells ≤ k) (hn' : n' + (mR M').slots ≤ n)
    (hc : CT X M' as h (rQ P)) (kk : ∀ v h', P v h' → J X M (pc + 3) ls (v.toList ++ rest) h' k' n' Q) : J X M pc ls st h k n Q := by
  simp only [J_def] at *
  intro p e R s m args below meth c ψ0 h0 F ψ H locs cells slots la hR hE hL hs hl hz hcc hnn
  subst hst
  obtain ⟨f0, f1, f2, f3, f4, f5, f6⟩ := f
  have hts := F.2.2.2.2.2.2.1
  have hRR := F.2.2.2.2.2.2.2.2.1
  have hws : wsO M' = Cond.codeWith (mN M') (mC M') (mL M') (mT M') (mH M') :: GW := by
    unfold wsO
    cases hm : mH M' with
    | nil => exact absurd hm f0
    | cons x xs => rfl
  have hGG : GoodIn GW (va_wsS (mN M).cls idx (mN M') (wsO M')) := by
    intro w hw
    rcases List.mem_append.mp hw with hw | hw
    · rcases List.mem_cons.mp hw with rfl | hw
      · exact ⟨f4, GW_good f4⟩
      · rcases List.mem_cons.mp hw with rfl | hw
        · exact ⟨f5, GW_good f5⟩
        · rcases List.mem_cons.mp hw with rfl | hw
          · exact ⟨f2, GW_good f2⟩
          · cases hw
    · rw [hws] at hw
      rcases List.mem_cons.mp hw with rfl | hw
      · exact ⟨f1, GW_good f1⟩
      · exact ⟨hw, GW_good hw⟩
  have cw : vx_CSW R s args (mN M).cls idx (mN M') (mC M') (mL M') (mT M') (mH M') (wsO M') (mR M') (mR M').cells (mR M').slots as.length :=
    vx_cwSW as.length hts hGG hws rfl rfl ⟨f3.1, f3.2, f6⟩ (by rw [hRR]; exact hrm)
  have hrest : ∀ v ∈ rest, Lv h v := fun v hv => hs v (List.mem_append_right _ hv)
  have hargs : ∀ v ∈ as, Lv h v := fun v hv => hs v (List.mem_append_left _ (List.mem_reverse.mpr hv))
  have hr := vx_runSW (cells := cells) (slots := slots) (locs := locs) (p := p) (l := xl X) (e := e) (below := below) (meth := meth) (As := as.map (ph ψ)) (rest := rest.map (ph ψ)) (g := F0 m pc la ((as.reverse ++ rest).map (ph ψ))) ⟨F.1, F.2.1, F.2.2.1, F.2.2.2.2.2.1, hts⟩ (CT.met hc ψ) cw
    ⟨Pc_blind, fun U hU hW => ⟨rfl, KK.warm hW F.2.2.2.2.2.2.2.1, by rw [hU]; exact hR, hargs⟩⟩ rfl (by rw [List.length_map]) hL.1 (by
      show (as.reverse ++ rest).map (ph ψ) = _
      rw [List.map_append, List.map_reverse]) (by
      have := cat_sum ψ rest
      show 2 * 0 + _ ≤ 8
      omega) d (by rw [hRR]; omega)
  exact back_call hr F hE hL hrest hl hz (by omega) (by omega) kk
/-- a call of a method that may throw, in a frame that catches what it throws -/
theorem J_callX {t : Tg} {idx ci : Nat} {fs : List LV} {Qc : LO → LH → Prop} (d : decode (mC M) pc = .ok (.invokevirtual idx, 3)) (f : VI (mN M).cls idx M' as.length ci) (hrm : rmOK M M') (hh : h t = some (cO ci fs)) (hst : st = as.reverse ++ vR (some t) :: rest) (hlen : rest.length ≤ 4) (hk : k' + (mR M').cells ≤ k) (hn' : n' + (mR M').slots ≤ n)
    (hc : CT X M' (vR (some t) :: as) h Qc) (kx : ∀ kq h', Qc (.inr kq) h' → ∃ hp i len, HI M pc kq hp i len ∧ nlg ls i = true ∧ J X M (hp + len) (ls.set i none) [] h' k' n' Q) (kk : ∀ v h', Qc (.inl v) h' → J X M (pc + 3) ls (v.toList ++ rest) h' k' n' Q) : J X M pc ls st h k n Q := by
  simp only [J_def] at *
  intro p e R s m args below meth c ψ0 h0 F ψ H locs cells slots la hR hE hL hs hl hz hcc hnn
  subst hst
  obtain ⟨f1, f2, f3, f4, T, N, f5⟩ := f
  obtain ⟨hG, hws⟩ := KI_good f1
  have hts := F.2.2.2.2.2.2.1
  have hRR := F.2.2.2.2.2.2.2.2.1
  have cw : CallW R s args (mN M).cls (mN M').cls idx (mN M') (mC M') (mL M') (mT M') (wsO M') (mR M') (mR M').cells (mR M').slots as.length :=
    ⟨callB_of as.length hts hG hws rfl rfl (hts _ f1.2.2.1) (hts _ f2) ⟨f1.2.2.2.1.1, f1.2.2.2.1.2, f1.2.2.2.2⟩ (by rw [hRR]; exact hrm), hts _ f3, hts _ f4⟩
  have hrest : ∀ v ∈ rest, Lv h v := fun v hv => hs v (List.mem_append_right _ (List.mem_cons_of_mem _ hv))
  have hargs : ∀ v ∈ vR (some t) :: as, Lv h v := fun v hv => by
    rcases List.mem_cons.mp hv with rfl | hv
    · exact hs _ (List.mem_append_right _ List.mem_cons_self)
    · exact hs v (List.mem_append_left _ (List.mem_reverse.mpr hv))
  have hr := vx_runV (cells := cells) (slots := slots) (locs := locs) (p := p) (l := xl X) (e := e) (below := below) (meth := meth) (b := ψ t) (As := as.map (ph ψ)) (rest := rest.map (ph ψ)) (g := F0 m pc la ((as.reverse ++ vR (some t) :: rest).map (ph ψ))) ⟨F.1, F.2.1, F.2.2.1, F.2.2.2.2.2.1, hts⟩ (hc ψ) cw
    ⟨Pc_blind (as := vR (some t) :: as), recv F hR hh f5, fun U hU hW => ⟨rfl, KK.warm hW F.2.2.2.2.2.2.2.1, by rw [hU]; exact hR, hargs⟩⟩ rfl (by rw [List.length_map]) hL.1 (by
      show (as.reverse ++ vR (some t) :: rest).map (ph ψ) = _
      rw [List.map_append, List.map_reverse, List.map_cons]; rfl) (by
      have := cat_sum ψ rest
      show 2 * 0 + _ ≤ 8
      omega) d (by rw [hRR]; omega)
  intro T hT Y
  rcases hr T hT Y with ⟨v, st₀, t1, T', L, g0, Y', hLo, e1, e2, ⟨v', h', ψ', hv, hP, hR', hE', hlv⟩, st⟩ | ⟨q, st₀, t1, T', L, E, ce, g0, Y', hLo, e1, e2, ⟨kq, h', ψ', hE1, hP, hR', hE'⟩, hce, hcv, hcl, st⟩
  · cases hv
    have hgo := kk v' h' hP p e R s m args below meth c ψ0 h0 F ψ' T'.heap (locs ++ L) (cells + (mR M').cells) (slots + (mR M').slots) la (by rw [e1]; exact hR') (ext_tr hE hE') (LRel_ext hE' hl hL)
      (fun w hw => by
        rcases List.mem_append.mp hw with q | q
        · exact hlv w (by simpa using q)
        · exact ext_lv hE' (hrest w q)) (fun w hw => ext_lv hE' (hl w hw)) (fun z q => by
        rcases List.mem_append.mp q with q | q
        · exact hz z q
        · exact hLo z q) (by omega) (by omega)
    obtain ⟨t2, a1, b1⟩ := hgo T' rfl Y'
    refine ⟨t2, st t2 ?_, b1⟩
    have e3 : (v'.toList ++ rest).map (ph ψ') = (v'.map (ph ψ')).toList ++ rest.map (ph ψ) := by
      rw [List.map_append, ext_map hE' hrest]
      cases v' <;> rfl
    rw [e3] at a1
    exact a1
  · subst hE1
    obtain ⟨hp, i, len, ⟨pre, x, suf, hsp, hpass, hcov, hne, hlk, hcast, hhp, hil, hdec⟩, hng, hJ⟩ := kx kq h' hP
    have hgo : ∀ la', LRel ψ' (ls.set i none) la' (mL M) → W p (xl X) e R s m args below meth c T'.heap (locs ++ L) (cells + (mR M').cells) (slots + (mR M').slots) (vx_MQ below (QR X ψ0 h0 Q) (QX X ψ0 h0 Q) args s (mR M).cells (mR M).slots (xA X)) (F0 m (hp + len) la' []) := fun la' hL' =>
      hJ p e R s m args below meth c ψ0 h0 F ψ' T'.heap (locs ++ L) (cells + (mR M').cells) (slots + (mR M').slots) la' (by rw [e1]; exact hR') (ext_tr hE hE') hL' (fun w hw => nomatch hw) (fun w hw => by
        rcases List.mem_or_eq_of_mem_set hw with h1 | h1
        · exact ext_lv hE' (hl w h1)
        · cases h1) (fun z q => by
        rcases List.mem_append.mp q with q | q
        · exact hz z q
        · exact hLo z q) (by omega) (by omega)
    have hL2 : LRel ψ' ls la (mL M) := LRel_ext hE' hl hL
    have hstore : ∀ la', lv_has la' (mL M) ((i, Value.ref q) :: (toL ψ' ls).filter (fun z => !(z.1 == i) && !(z.1 + 1 == i && z.2.category == 2))) → LRel ψ' (ls.set i none) la' (mL M) := by
      intro la' hh2
      refine ⟨hh2.1, hh2.2.1, fun j w hw => ?_⟩
      by_cases hj : j = i
      · subst hj
        have hlt : j < ls.length := by
          have := (List.getElem?_eq_some_iff.mp hw).1
          simpa using this
        rw [List.getElem?_set_self hlt] at hw
        cases hw
      · rw [List.getElem?_set_ne (Ne.symm hj)] at hw
        refine hh2.2.2 (j, ph ψ' w) (List.mem_cons_of_mem _ (List.mem_filter.mpr ⟨toL_in hw, ?_⟩))
        by_cases e : j + 1 = i
        · have hc := nlg_cat (ψ := ψ') hng e hw
          simp [hj, hc]
        · simp [hj, e]
    have hKK := F.2.2.2.2.2.2.2.1
    have hcat := va_Nw.use (A := args) (mv_tabs (List.mem_filter.mp hcast).2) (hKK.2.2.1 _ hcast)
    have hW : W p (xl X) e R s m args below meth c T'.heap (locs ++ L) (cells + (mR M').cells) (slots + (mR M').slots) (vx_MQ below (QR X ψ0 h0 Q) (QX X ψ0 h0 Q) args s (mR M).cells (mR M).slots (xA X)) (F0 m hp la [Value.ref q]) := by
      rcases hdec with ⟨i', hi', hdd, rfl⟩ | ⟨hdd, rfl⟩
      · exact lv_astore_n F.1 F.2.1 hdd hi' (LRel_has hL2) hil rfl (fun la' hh2 => hgo la' (hstore la' hh2))
      · exact lv_astore F.1 F.2.1 hdd (LRel_has hL2) hil rfl (fun la' hh2 => hgo la' (hstore la' hh2))
    have hce' : T'.heap[q]? = some ce := by rw [e1]; exact hce
    have hfin := vx_catch (pc := pc) (rest := rest.map (ph ψ)) (ls := la) F.2.2.2.2.2.1 (tableOf pre) ⟨x.1, x.2.1, x.2.2.1, x.2.2.2⟩ (tableOf suf) (by rw [F.2.2.2.2.2.2.2.2.2.1, hsp]; simp [tableOf])
      (fun z hz => by
        obtain ⟨z0, hz0, rfl⟩ := List.mem_map.mp hz
        rcases hpass z0 hz0 with h1 | ⟨h1, nm, h2, h3⟩
        · exact Or.inl h1
        · exact Or.inr ⟨h1, nm, hts _ h2, hKK.2.2.2.2.1 _ h3⟩) hcov hne (hts _ hlk) hcat hce' hcv hcl (by rw [show (ExceptionTableEntry.mk x.1 x.2.1 x.2.2.1 x.2.2.2).handlerPc = hp from hhp]; exact hW)
    obtain ⟨t2, a1, b1⟩ := hfin T' rfl Y'
    exact ⟨t2, st.trans a1, b1⟩
theorem HR_grow {X : GX} {ψ : Tg → Nat} {h : LH} {H H1 : Heap} (hR : HR X ψ h H) (hz : H.size ≤ H1.size) (ho : ∀ q, q < H.size → H1[q]? = H[q]?) : HR X ψ h H1 := by
  obtain ⟨g1, g2, g3, g4, g5, g6, g7⟩ := id hR
  exact ⟨fun t c hh => ⟨(g1 t c hh).1.kept (ho _ (HR_lt hR hh)), (g1 t c hh).2⟩, g2, g3, g4, g5, by omega, fun q hq => by rw [ho q (by omega)]; exact g7 q hq⟩
/-- 'throw new E("text")' -/
def exS : List String := ["java/lang/RuntimeException", "java/lang/Exception"]
def TI (ik is ic kq : Nat) : Prop := (∃ text, (is, text) ∈ strL) ∧ Cond.classLink RX7 ik (exN kq) ∈ GW ∧ Cond.initialized (exN kq) ∈ GW ∧ Bundle.fit (exN kq) = true ∧ (vx_atS RX7 ic (exN kq) exS).all (fun w => goodWord w || mvWord w) = true ∧ ∀ w ∈ vx_atS RX7 ic (exN kq) exS, w ∈ lw_tbl
theorem J_throwA {ik is ic kq : Nat} (hlk : (mN M).cls = RX7) (hH : mH M = []) (f : TI ik is ic kq) (hfr : 5 < (mR M).frames) (hlo : 2 * st.length + 82 ≤ (mR M).locals) (hk : 1 ≤ k) (hn : 6 ≤ n) (hq : Q (.inr kq) h)
    (dd : (decode (mC M) pc = .ok (.new ik, 3) ∧ decode (mC M) (pc + 3) = .ok (.dup, 1) ∧ decode (mC M) (pc + 4) = .ok (.ldc is, 2) ∧ decode (mC M) (pc + 6) = .ok (.invokespecial ic, 3) ∧ decode (mC M) (pc + 9) = .ok (.athrow, 1)) ∨
      (decode (mC M) pc = .ok (.new ik, 3) ∧ decode (mC M) (pc + 3) = .ok (.dup, 1) ∧ decode (mC M) (pc + 4) = .ok (.ldc_w is, 3) ∧ decode (mC M) (pc + 7) = .ok (.invokespecial ic, 3) ∧ decode (mC M) (pc + 10) = .ok (.athrow, 1))) : J X M pc ls st h k n Q := by
  simp only [J_def] at *
  intro p e R s m args below meth c ψ0 h0 F ψ H locs cells slots la hR hE hL hs hl hz hcc hnn
  obtain ⟨⟨text, f1⟩, f2, f3, f4, f5, f6⟩ := f
  have hts := F.2.2.2.2.2.2.1
  have hRR := F.2.2.2.2.2.2.2.2.1
  have hKK := F.2.2.2.2.2.2.2.1
  obtain ⟨sa, hsa⟩ := hKK.2.1 _ f1
  have hb := F.2.2.2.2.2.2.2.2.2.2.2
  have hkp : ∀ a : Nat, a < (xB X).size → ¬ xA X a → s.heap[a]? = (xB X)[a]? := fun a ha _ => hb.2 a ha
  have htab : ∀ x ∈ c.exceptionTable.toList, False := by
    intro x hx
    rw [F.2.2.2.2.2.2.2.2.2.1, hH] at hx
    cases hx
  have hw5 : ∀ w ∈ vx_atS RX7 ic (exN kq) exS, w.before args s = true := by
    intro w hw
    have h1 := List.all_eq_true.mp f5 w hw
    rw [Bool.or_eq_true] at h1
    rcases h1 with h1 | h1
    · exact hts _ (List.mem_filter.mpr ⟨f6 w hw, h1⟩)
    · exact va_Nw.use (mv_tabs h1) (hKK.2.2.1 _ (List.mem_filter.mpr ⟨f6 w hw, h1⟩))
  have hgood : ∀ w ∈ Cond.classLink RX7 ik (exN kq) :: Cond.initialized (exN kq) :: vx_atS RX7 ic (exN kq) exS, vx_ot w = true := by
    intro w hw
    rcases List.mem_cons.mp hw with rfl | hw
    · rfl
    · rcases List.mem_cons.mp hw with rfl | hw
      · rfl
      · have h1 := List.all_eq_true.mp f5 w hw
        rw [Bool.or_eq_true] at h1
        unfold vx_ot
        rcases h1 with h1 | h1
        · rw [h1, Bool.or_true]
        · rw [mv_tabs h1, Bool.true_or]
  have hown : s.vm.findClass RX7 = some m.cls := hlk ▸ F.2.2.2.2.2.1
  have hsum := cat_sum ψ st
  intro T hT Y
  have hsz : s.heap.size ≤ H.size := by
    have := (vx_frame (s := s) (U := T) Y.same).1
    rw [hT] at this
    exact this
  have hS : va_S (xA X) s.heap H locs := ⟨hsz, fun q h1 h2 => by
    have hq : q < (xB X).size := Nat.not_le.mp h2
    rw [hR.2.2.2.2.2.2 q hq, hb.2 q hq], hz⟩
  have hx : ∀ t : State, s.vm.Alike t.vm → H.size ≤ t.heap.size → (∀ q : Nat, q < H.size → t.heap[q]? = H[q]?) → QX X ψ0 h0 Q (exN kq) s t := fun t _ h1 h2 => ⟨kq, h, ψ, rfl, hq, HR_grow hR h1 h2, hE⟩
  rcases dd with ⟨d0, d3, d4, d6, d9⟩ | ⟨d0, d3, d4, d6, d9⟩
  · exact vx_throwS (names := exS) F.1 F.2.1 hKK.2.2.2.2.2.2.2.2 hown f4 (by decide +kernel) (hts _ f2) (hts _ f3) hsa hw5 hgood (hKK.2.2.2.2.2.1.kept hkp) (hKK.2.2.2.2.2.2.1.kept hkp) hS (by rw [hL.1, F.2.2.1]) d0 d3 d4 d6 d9 (fun x hx => (htab x hx).elim)
      (by rw [hRR]; exact hfr) (by rw [hRR]; show _ + (13 * (2 + 1) + 43) ≤ _; omega) (by rw [hRR]; omega) (by rw [hRR]; omega) F.2.2.2.2.1 hx hz (by omega) (by omega) T hT Y
  · exact vx_throwSW (names := exS) F.1 F.2.1 hKK.2.2.2.2.2.2.2.2 hown f4 (by decide +kernel) (hts _ f2) (hts _ f3) hsa hw5 hgood (hKK.2.2.2.2.2.1.kept hkp) (hKK.2.2.2.2.2.2.1.kept hkp) hS (by rw [hL.1, F.2.2.1]) d0 d3 d4 d6 d9 (fun x hx => (htab x hx).elim)
      (by rw [hRR]; exact hfr) (by rw [hRR]; show _ + (13 * (2 + 1) + 43) ≤ _; omega) (by rw [hRR]; omega) (by rw [hRR]; omega) F.2.2.2.2.1 hx hz (by omega) (by omega) T hT Y
end JC
end
section
/-! THE TABLES OF THIS CLAIM: by program (gentab.py) -/
theorem aw_int : Cond.arrayClass .int ∈ GW := GW_of (i := 118) (by decide +kernel) rfl
theorem aw_long : Cond.arrayClass .long ∈ GW := GW_of (i := 244) (by decide +kernel) rfl
theorem u_ws_in {C : String} {T : u_T} {N : Nat} (ps : List Nat) (h : (u_ws C T N).map some = ps.map (fun i => lw_tbl[i]?)) (hg : (u_ws C T N).all goodWord = true) : ∀ w ∈ u_ws C T N, w ∈ GW := by
  intro w hw
  have h1 : some w ∈ (u_ws C T N).map some := List.mem_map.mpr ⟨w, hw, rfl⟩
  rw [h] at h1
  obtain ⟨i, -, hi⟩ := List.mem_map.mp h1
  exact GW_of hi (List.all_eq_true.mp hg w hw)
theorem okX0 : ClsOK 0 RX0 TX0 8 tyX0 := ⟨rfl, u_ws_in [329, 331, 333, 335, 337, 339, 341, 343] (by decide +kernel) (by decide +kernel), tyX0_ok, nmX0⟩
theorem okX1 : ClsOK 1 RX1 TX1 5 tyX1 := ⟨rfl, u_ws_in [257, 259, 261, 263, 265] (by decide +kernel) (by decide +kernel), tyX1_ok, nmX1⟩
theorem okX2 : ClsOK 2 RX2 TX2 10 tyX2 := ⟨rfl, u_ws_in [582, 584, 586, 588, 590, 592, 594, 596, 598, 600] (by decide +kernel) (by decide +kernel), tyX2_ok, nmX2⟩
theorem okX3 : ClsOK 3 RX3 TX3 6 tyX3 := ⟨rfl, u_ws_in [80, 82, 84, 86, 88, 90] (by decide +kernel) (by decide +kernel), tyX3_ok, nmX3⟩
theorem okX4 : ClsOK 4 RX4 TX4 5 tyX4 := ⟨rfl, u_ws_in [107, 109, 111, 113, 115] (by decide +kernel) (by decide +kernel), tyX4_ok, nmX4⟩
theorem okX5 : ClsOK 5 RX5 TX5 3 tyX5 := ⟨rfl, u_ws_in [131, 133, 135] (by decide +kernel) (by decide +kernel), tyX5_ok, nmX5⟩
theorem okX6 : ClsOK 6 RX6 TX6 4 tyX6 := ⟨rfl, u_ws_in [459, 461, 463, 465] (by decide +kernel) (by decide +kernel), tyX6_ok, nmX6⟩
theorem okX7 : ClsOK 7 RX7 TX7 10 tyX7 := ⟨rfl, u_ws_in [148, 150, 152, 154, 156, 158, 160, 162, 164, 166] (by decide +kernel) (by decide +kernel), tyX7_ok, nmX7⟩
theorem fi_X7_11 : FI RX7 11 7 1 (.array (.object "PisteLine$Fencer")) true := ⟨RX7, TX7, 10, tyX7, okX7, GW_of (i := 139) (by decide +kernel) rfl, by decide, rfl, by decide +kernel, rfl⟩
theorem fi_X7_17 : FI RX7 17 7 3 (.array (.object "PisteLine$Weapon")) true := ⟨RX7, TX7, 10, tyX7, okX7, GW_of (i := 141) (by decide +kernel) rfl, by decide, rfl, by decide +kernel, rfl⟩
theorem fi_X7_23 : FI RX7 23 7 5 (.array (.object "PisteLine$Bout")) true := ⟨RX7, TX7, 10, tyX7, okX7, GW_of (i := 143) (by decide +kernel) rfl, by decide, rfl, by decide +kernel, rfl⟩
theorem fi_X7_30 : FI RX7 30 7 7 (.object "PisteLine$Piste") true := ⟨RX7, TX7, 10, tyX7, okX7, GW_of (i := 145) (by decide +kernel) rfl, by decide, rfl, by decide +kernel, rfl⟩
theorem fi_X7_37 : FI RX7 37 7 8 (.object "PisteLine$Tableau") true := ⟨RX7, TX7, 10, tyX7, okX7, GW_of (i := 146) (by decide +kernel) rfl, by decide, rfl, by decide +kernel, rfl⟩
theorem fi_X7_44 : FI RX7 44 7 9 (.object "PisteLine$Tally") true := ⟨RX7, TX7, 10, tyX7, okX7, GW_of (i := 147) (by decide +kernel) rfl, by decide, rfl, by decide +kernel, rfl⟩
theorem fi_X7_48 : FI RX7 48 7 0 (.boolean) true := ⟨RX7, TX7, 10, tyX7, okX7, GW_of (i := 138) (by decide +kernel) rfl, by decide, rfl, by decide +kernel, rfl⟩
theorem fi_X7_52 : FI RX7 52 7 2 (.int) false := ⟨RX7, TX7, 10, tyX7, okX7, GW_of (i := 140) (by decide +kernel) rfl, by decide, rfl, by decide +kernel, rfl⟩
theorem fi_X7_79 : FI RX7 79 7 4 (.int) false := ⟨RX7, TX7, 10, tyX7, okX7, GW_of (i := 142) (by decide +kernel) rfl, by decide, rfl, by decide +kernel, rfl⟩
theorem fi_X7_98 : FI RX7 98 6 2 (.int) false := ⟨RX6, TX6, 4, tyX6, okX6, GW_of (i := 456) (by decide +kernel) rfl, by decide, rfl, by decide +kernel, rfl⟩
theorem fi_X7_101 : FI RX7 101 3 4 (.object "PisteLine$Phrase") false := ⟨RX3, TX3, 6, tyX3, okX3, GW_of (i := 77) (by decide +kernel) rfl, by decide, rfl, by decide +kernel, rfl⟩
theorem fi_X7_111 : FI RX7 111 6 1 (.int) true := ⟨RX6, TX6, 4, tyX6, okX6, GW_of (i := 454) (by decide +kernel) rfl, by decide, rfl, by decide +kernel, rfl⟩
theorem fi_X7_125 : FI RX7 125 0 1 (.int) false := ⟨RX0, TX0, 8, tyX0, okX0, GW_of (i := 316) (by decide +kernel) rfl, by decide, rfl, by decide +kernel, rfl⟩
theorem fi_X7_132 : FI RX7 132 0 2 (.int) false := ⟨RX0, TX0, 8, tyX0, okX0, GW_of (i := 319) (by decide +kernel) rfl, by decide, rfl, by decide +kernel, rfl⟩
theorem fi_X7_141 : FI RX7 141 0 4 (.int) false := ⟨RX0, TX0, 8, tyX0, okX0, GW_of (i := 323) (by decide +kernel) rfl, by decide, rfl, by decide +kernel, rfl⟩
theorem fi_X7_149 : FI RX7 149 3 1 (.object "PisteLine$Bout") false := ⟨RX3, TX3, 6, tyX3, okX3, GW_of (i := 70) (by decide +kernel) rfl, by decide, rfl, by decide +kernel, rfl⟩
theorem fi_X7_167 : FI RX7 167 3 2 (.object "PisteLine$Weapon") false := ⟨RX3, TX3, 6, tyX3, okX3, GW_of (i := 73) (by decide +kernel) rfl, by decide, rfl, by decide +kernel, rfl⟩
theorem fi_X7_170 : FI RX7 170 3 3 (.object "PisteLine$Weapon") false := ⟨RX3, TX3, 6, tyX3, okX3, GW_of (i := 75) (by decide +kernel) rfl, by decide, rfl, by decide +kernel, rfl⟩
theorem fi_X7_195 : FI RX7 195 2 6 (.int) false := ⟨RX2, TX2, 10, tyX2, okX2, GW_of (i := 576) (by decide +kernel) rfl, by decide, rfl, by decide +kernel, rfl⟩
theorem fi_X7_209 : FI RX7 209 2 9 (.int) false := ⟨RX2, TX2, 10, tyX2, okX2, GW_of (i := 581) (by decide +kernel) rfl, by decide, rfl, by decide +kernel, rfl⟩
theorem fi_X7_216 : FI RX7 216 3 5 (.boolean) false := ⟨RX3, TX3, 6, tyX3, okX3, GW_of (i := 79) (by decide +kernel) rfl, by decide, rfl, by decide +kernel, rfl⟩
theorem fi_X7_249 : FI RX7 249 3 0 (.int) false := ⟨RX3, TX3, 6, tyX3, okX3, GW_of (i := 68) (by decide +kernel) rfl, by decide, rfl, by decide +kernel, rfl⟩
theorem fi_X7_254 : FI RX7 254 0 7 (.object "PisteLine$Tally") true := ⟨RX0, TX0, 8, tyX0, okX0, GW_of (i := 328) (by decide +kernel) rfl, by decide, rfl, by decide +kernel, rfl⟩
theorem fi_X7_266 : FI RX7 266 0 0 (.boolean) true := ⟨RX0, TX0, 8, tyX0, okX0, GW_of (i := 314) (by decide +kernel) rfl, by decide, rfl, by decide +kernel, rfl⟩
theorem fi_X7_284 : FI RX7 284 7 6 (.int) false := ⟨RX7, TX7, 10, tyX7, okX7, GW_of (i := 144) (by decide +kernel) rfl, by decide, rfl, by decide +kernel, rfl⟩
theorem fi_X7_290 : FI RX7 290 1 2 (.int) false := ⟨RX1, TX1, 5, tyX1, okX1, GW_of (i := 254) (by decide +kernel) rfl, by decide, rfl, by decide +kernel, rfl⟩
theorem fi_X7_320 : FI RX7 320 4 0 (.int) false := ⟨RX4, TX4, 5, tyX4, okX4, GW_of (i := 101) (by decide +kernel) rfl, by decide, rfl, by decide +kernel, rfl⟩
theorem fi_X7_328 : FI RX7 328 4 1 (.int) false := ⟨RX4, TX4, 5, tyX4, okX4, GW_of (i := 103) (by decide +kernel) rfl, by decide, rfl, by decide +kernel, rfl⟩
theorem fi_X7_335 : FI RX7 335 6 3 (.boolean) false := ⟨RX6, TX6, 4, tyX6, okX6, GW_of (i := 458) (by decide +kernel) rfl, by decide, rfl, by decide +kernel, rfl⟩
theorem fi_X0_11 : FI RX0 11 0 3 (.array (.object "PisteLine$Phrase")) true := ⟨RX0, TX0, 8, tyX0, okX0, GW_of (i := 321) (by decide +kernel) rfl, by decide, rfl, by decide +kernel, rfl⟩
theorem fi_X0_17 : FI RX0 17 0 5 (.int) false := ⟨RX0, TX0, 8, tyX0, okX0, GW_of (i := 325) (by decide +kernel) rfl, by decide, rfl, by decide +kernel, rfl⟩
theorem fi_X0_21 : FI RX0 21 0 6 (.int) false := ⟨RX0, TX0, 8, tyX0, okX0, GW_of (i := 326) (by decide +kernel) rfl, by decide, rfl, by decide +kernel, rfl⟩
theorem fi_X0_27 : FI RX0 27 0 7 (.object "PisteLine$Tally") true := ⟨RX0, TX0, 8, tyX0, okX0, GW_of (i := 327) (by decide +kernel) rfl, by decide, rfl, by decide +kernel, rfl⟩
theorem fi_X0_31 : FI RX0 31 0 0 (.boolean) true := ⟨RX0, TX0, 8, tyX0, okX0, GW_of (i := 313) (by decide +kernel) rfl, by decide, rfl, by decide +kernel, rfl⟩
theorem fi_X0_35 : FI RX0 35 0 1 (.int) false := ⟨RX0, TX0, 8, tyX0, okX0, GW_of (i := 315) (by decide +kernel) rfl, by decide, rfl, by decide +kernel, rfl⟩
theorem fi_X0_38 : FI RX0 38 0 2 (.int) false := ⟨RX0, TX0, 8, tyX0, okX0, GW_of (i := 318) (by decide +kernel) rfl, by decide, rfl, by decide +kernel, rfl⟩
theorem fi_X0_45 : FI RX0 45 0 4 (.int) false := ⟨RX0, TX0, 8, tyX0, okX0, GW_of (i := 322) (by decide +kernel) rfl, by decide, rfl, by decide +kernel, rfl⟩
theorem fi_X0_51 : FI RX0 51 5 0 (.int) false := ⟨RX5, TX5, 3, tyX5, okX5, GW_of (i := 126) (by decide +kernel) rfl, by decide, rfl, by decide +kernel, rfl⟩
theorem fi_X0_54 : FI RX0 54 2 9 (.int) false := ⟨RX2, TX2, 10, tyX2, okX2, GW_of (i := 580) (by decide +kernel) rfl, by decide, rfl, by decide +kernel, rfl⟩
theorem fi_X0_80 : FI RX0 80 5 2 (.int) false := ⟨RX5, TX5, 3, tyX5, okX5, GW_of (i := 130) (by decide +kernel) rfl, by decide, rfl, by decide +kernel, rfl⟩
theorem fi_X0_81 : FI RX0 81 5 1 (.int) false := ⟨RX5, TX5, 3, tyX5, okX5, GW_of (i := 128) (by decide +kernel) rfl, by decide, rfl, by decide +kernel, rfl⟩
theorem fi_X1_7 : FI RX1 7 1 0 (.int) true := ⟨RX1, TX1, 5, tyX1, okX1, GW_of (i := 251) (by decide +kernel) rfl, by decide, rfl, by decide +kernel, rfl⟩
theorem fi_X1_13 : FI RX1 13 1 1 (.int) false := ⟨RX1, TX1, 5, tyX1, okX1, GW_of (i := 252) (by decide +kernel) rfl, by decide, rfl, by decide +kernel, rfl⟩
theorem fi_X1_16 : FI RX1 16 1 2 (.int) false := ⟨RX1, TX1, 5, tyX1, okX1, GW_of (i := 253) (by decide +kernel) rfl, by decide, rfl, by decide +kernel, rfl⟩
theorem fi_X1_19 : FI RX1 19 1 3 (.int) false := ⟨RX1, TX1, 5, tyX1, okX1, GW_of (i := 255) (by decide +kernel) rfl, by decide, rfl, by decide +kernel, rfl⟩
theorem fi_X1_22 : FI RX1 22 1 4 (.int) false := ⟨RX1, TX1, 5, tyX1, okX1, GW_of (i := 256) (by decide +kernel) rfl, by decide, rfl, by decide +kernel, rfl⟩
theorem fi_X2_9 : FI RX2 9 2 3 (.array (.int)) true := ⟨RX2, TX2, 10, tyX2, okX2, GW_of (i := 572) (by decide +kernel) rfl, by decide, rfl, by decide +kernel, rfl⟩
theorem fi_X2_15 : FI RX2 15 2 4 (.array (.int)) true := ⟨RX2, TX2, 10, tyX2, okX2, GW_of (i := 573) (by decide +kernel) rfl, by decide, rfl, by decide +kernel, rfl⟩
theorem fi_X2_18 : FI RX2 18 2 5 (.array (.int)) true := ⟨RX2, TX2, 10, tyX2, okX2, GW_of (i := 574) (by decide +kernel) rfl, by decide, rfl, by decide +kernel, rfl⟩
theorem fi_X2_21 : FI RX2 21 2 8 (.int) false := ⟨RX2, TX2, 10, tyX2, okX2, GW_of (i := 578) (by decide +kernel) rfl, by decide, rfl, by decide +kernel, rfl⟩
theorem fi_X2_25 : FI RX2 25 2 0 (.boolean) true := ⟨RX2, TX2, 10, tyX2, okX2, GW_of (i := 569) (by decide +kernel) rfl, by decide, rfl, by decide +kernel, rfl⟩
theorem fi_X2_29 : FI RX2 29 2 1 (.object "PisteLine$Weapon") true := ⟨RX2, TX2, 10, tyX2, okX2, GW_of (i := 570) (by decide +kernel) rfl, by decide, rfl, by decide +kernel, rfl⟩
theorem fi_X2_33 : FI RX2 33 2 2 (.object "PisteLine$Weapon") true := ⟨RX2, TX2, 10, tyX2, okX2, GW_of (i := 571) (by decide +kernel) rfl, by decide, rfl, by decide +kernel, rfl⟩
theorem fi_X2_36 : FI RX2 36 2 6 (.int) false := ⟨RX2, TX2, 10, tyX2, okX2, GW_of (i := 575) (by decide +kernel) rfl, by decide, rfl, by decide +kernel, rfl⟩
theorem fi_X2_43 : FI RX2 43 2 7 (.boolean) false := ⟨RX2, TX2, 10, tyX2, okX2, GW_of (i := 577) (by decide +kernel) rfl, by decide, rfl, by decide +kernel, rfl⟩
theorem fi_X2_50 : FI RX2 50 2 9 (.int) false := ⟨RX2, TX2, 10, tyX2, okX2, GW_of (i := 579) (by decide +kernel) rfl, by decide, rfl, by decide +kernel, rfl⟩
theorem fi_X3_9 : FI RX3 9 3 0 (.int) false := ⟨RX3, TX3, 6, tyX3, okX3, GW_of (i := 67) (by decide +kernel) rfl, by decide, rfl, by decide +kernel, rfl⟩
theorem fi_X3_15 : FI RX3 15 3 1 (.object "PisteLine$Bout") false := ⟨RX3, TX3, 6, tyX3, okX3, GW_of (i := 69) (by decide +kernel) rfl, by decide, rfl, by decide +kernel, rfl⟩
theorem fi_X3_19 : FI RX3 19 3 2 (.object "PisteLine$Weapon") false := ⟨RX3, TX3, 6, tyX3, okX3, GW_of (i := 72) (by decide +kernel) rfl, by decide, rfl, by decide +kernel, rfl⟩
theorem fi_X3_23 : FI RX3 23 3 3 (.object "PisteLine$Weapon") false := ⟨RX3, TX3, 6, tyX3, okX3, GW_of (i := 74) (by decide +kernel) rfl, by decide, rfl, by decide +kernel, rfl⟩
theorem fi_X3_26 : FI RX3 26 3 4 (.object "PisteLine$Phrase") false := ⟨RX3, TX3, 6, tyX3, okX3, GW_of (i := 76) (by decide +kernel) rfl, by decide, rfl, by decide +kernel, rfl⟩
theorem fi_X3_30 : FI RX3 30 3 5 (.boolean) false := ⟨RX3, TX3, 6, tyX3, okX3, GW_of (i := 78) (by decide +kernel) rfl, by decide, rfl, by decide +kernel, rfl⟩
theorem fi_X3_38 : FI RX3 38 6 0 (.int) true := ⟨RX6, TX6, 4, tyX6, okX6, GW_of (i := 452) (by decide +kernel) rfl, by decide, rfl, by decide +kernel, rfl⟩
theorem fi_X4_9 : FI RX4 9 4 2 (.array (.int)) true := ⟨RX4, TX4, 5, tyX4, okX4, GW_of (i := 104) (by decide +kernel) rfl, by decide, rfl, by decide +kernel, rfl⟩
theorem fi_X4_15 : FI RX4 15 4 3 (.array (.int)) true := ⟨RX4, TX4, 5, tyX4, okX4, GW_of (i := 105) (by decide +kernel) rfl, by decide, rfl, by decide +kernel, rfl⟩
theorem fi_X4_20 : FI RX4 20 4 4 (.array (.object "PisteLine$Bout")) true := ⟨RX4, TX4, 5, tyX4, okX4, GW_of (i := 106) (by decide +kernel) rfl, by decide, rfl, by decide +kernel, rfl⟩
theorem fi_X4_24 : FI RX4 24 4 0 (.int) false := ⟨RX4, TX4, 5, tyX4, okX4, GW_of (i := 100) (by decide +kernel) rfl, by decide, rfl, by decide +kernel, rfl⟩
theorem fi_X4_49 : FI RX4 49 0 1 (.int) false := ⟨RX0, TX0, 8, tyX0, okX0, GW_of (i := 317) (by decide +kernel) rfl, by decide, rfl, by decide +kernel, rfl⟩
theorem fi_X4_52 : FI RX4 52 0 2 (.int) false := ⟨RX0, TX0, 8, tyX0, okX0, GW_of (i := 320) (by decide +kernel) rfl, by decide, rfl, by decide +kernel, rfl⟩
theorem fi_X4_67 : FI RX4 67 0 4 (.int) false := ⟨RX0, TX0, 8, tyX0, okX0, GW_of (i := 324) (by decide +kernel) rfl, by decide, rfl, by decide +kernel, rfl⟩
theorem fi_X4_70 : FI RX4 70 4 1 (.int) false := ⟨RX4, TX4, 5, tyX4, okX4, GW_of (i := 102) (by decide +kernel) rfl, by decide, rfl, by decide +kernel, rfl⟩
theorem fi_X4_76 : FI RX4 76 3 1 (.object "PisteLine$Bout") false := ⟨RX3, TX3, 6, tyX3, okX3, GW_of (i := 71) (by decide +kernel) rfl, by decide, rfl, by decide +kernel, rfl⟩
theorem fi_X5_9 : FI RX5 9 5 0 (.int) false := ⟨RX5, TX5, 3, tyX5, okX5, GW_of (i := 125) (by decide +kernel) rfl, by decide, rfl, by decide +kernel, rfl⟩
theorem fi_X5_15 : FI RX5 15 5 1 (.int) false := ⟨RX5, TX5, 3, tyX5, okX5, GW_of (i := 127) (by decide +kernel) rfl, by decide, rfl, by decide +kernel, rfl⟩
theorem fi_X5_18 : FI RX5 18 5 2 (.int) false := ⟨RX5, TX5, 3, tyX5, okX5, GW_of (i := 129) (by decide +kernel) rfl, by decide, rfl, by decide +kernel, rfl⟩
theorem fi_X6_9 : FI RX6 9 6 2 (.int) false := ⟨RX6, TX6, 4, tyX6, okX6, GW_of (i := 455) (by decide +kernel) rfl, by decide, rfl, by decide +kernel, rfl⟩
theorem fi_X6_15 : FI RX6 15 6 0 (.int) true := ⟨RX6, TX6, 4, tyX6, okX6, GW_of (i := 451) (by decide +kernel) rfl, by decide, rfl, by decide +kernel, rfl⟩
theorem fi_X6_18 : FI RX6 18 6 1 (.int) true := ⟨RX6, TX6, 4, tyX6, okX6, GW_of (i := 453) (by decide +kernel) rfl, by decide, rfl, by decide +kernel, rfl⟩
theorem fi_X6_21 : FI RX6 21 6 3 (.boolean) false := ⟨RX6, TX6, 4, tyX6, okX6, GW_of (i := 457) (by decide +kernel) rfl, by decide, rfl, by decide +kernel, rfl⟩
theorem ni_X7_9 : NI RX7 9 1 [vI 0, vI 0, vI 0, vI 0, vI 0] 5 := ⟨RX1, TX1, tyX1, okX1, GW_of (i := 55) (by decide +kernel) rfl, GW_of (i := 246) (by decide +kernel) rfl, GW_of (i := 31) (by decide +kernel) rfl, (fun ψ => lt_s (lt_s (lt_s (lt_s (lt_s (lt_0) rfl) rfl) rfl) rfl) rfl), by decide +kernel⟩
theorem cl_X7_9 : Cond.classLink RX7 9 RX1 ∈ GW := GW_of (i := 55) (by decide +kernel) rfl
theorem ni_X7_15 : NI RX7 15 6 [vI 0, vI 0, vI 0, vI 0] 4 := ⟨RX6, TX6, tyX6, okX6, GW_of (i := 57) (by decide +kernel) rfl, GW_of (i := 446) (by decide +kernel) rfl, GW_of (i := 35) (by decide +kernel) rfl, (fun ψ => lt_s (lt_s (lt_s (lt_s (lt_0) rfl) rfl) rfl) rfl), by decide +kernel⟩
theorem cl_X7_15 : Cond.classLink RX7 15 RX6 ∈ GW := GW_of (i := 57) (by decide +kernel) rfl
theorem ni_X7_21 : NI RX7 21 0 [vI 0, vI 0, vI 0, vR none, vI 0, vI 0, vI 0, vR none] 8 := ⟨RX0, TX0, tyX0, okX0, GW_of (i := 59) (by decide +kernel) rfl, GW_of (i := 300) (by decide +kernel) rfl, GW_of (i := 33) (by decide +kernel) rfl, (fun ψ => lt_s (lt_s (lt_s (lt_s (lt_s (lt_s (lt_s (lt_s (lt_0) rfl) rfl) rfl) rfl) rfl) rfl) rfl) rfl), by decide +kernel⟩
theorem cl_X7_21 : Cond.classLink RX7 21 RX0 ∈ GW := GW_of (i := 59) (by decide +kernel) rfl
theorem ni_X7_27 : NI RX7 27 3 [vI 0, vR none, vR none, vR none, vR none, vI 0] 6 := ⟨RX3, TX3, tyX3, okX3, GW_of (i := 61) (by decide +kernel) rfl, GW_of (i := 62) (by decide +kernel) rfl, GW_of (i := 24) (by decide +kernel) rfl, (fun ψ => lt_s (lt_s (lt_s (lt_s (lt_s (lt_s (lt_0) rfl) rfl) rfl) rfl) rfl) rfl), by decide +kernel⟩
theorem cl_X7_27 : Cond.classLink RX7 27 RX3 ∈ GW := GW_of (i := 61) (by decide +kernel) rfl
theorem ni_X7_34 : NI RX7 34 4 [vI 0, vI 0, vR none, vR none, vR none] 5 := ⟨RX4, TX4, tyX4, okX4, GW_of (i := 93) (by decide +kernel) rfl, GW_of (i := 94) (by decide +kernel) rfl, GW_of (i := 25) (by decide +kernel) rfl, (fun ψ => lt_s (lt_s (lt_s (lt_s (lt_s (lt_0) rfl) rfl) rfl) rfl) rfl), by decide +kernel⟩
theorem cl_X7_34 : Cond.classLink RX7 34 RX4 ∈ GW := GW_of (i := 93) (by decide +kernel) rfl
theorem ni_X7_41 : NI RX7 41 5 [vI 0, vI 0, vI 0] 3 := ⟨RX5, TX5, tyX5, okX5, GW_of (i := 119) (by decide +kernel) rfl, GW_of (i := 120) (by decide +kernel) rfl, GW_of (i := 26) (by decide +kernel) rfl, (fun ψ => lt_s (lt_s (lt_s (lt_0) rfl) rfl) rfl), by decide +kernel⟩
theorem cl_X7_41 : Cond.classLink RX7 41 RX5 ∈ GW := GW_of (i := 119) (by decide +kernel) rfl
theorem cl_X7_60 : Cond.classLink RX7 60 "java/lang/IllegalStateException" ∈ GW := GW_of (i := 177) (by decide +kernel) rfl
theorem cl_X7_74 : Cond.classLink RX7 74 "java/lang/IndexOutOfBoundsException" ∈ GW := GW_of (i := 365) (by decide +kernel) rfl
theorem cl_X7_93 : Cond.classLink RX7 93 "java/lang/IllegalArgumentException" ∈ GW := GW_of (i := 272) (by decide +kernel) rfl
theorem ni_X7_174 : NI RX7 174 2 [vI 0, vR none, vR none, vR none, vR none, vR none, vI 0, vI 0, vI 0, vI 0] 10 := ⟨RX2, TX2, tyX2, okX2, GW_of (i := 563) (by decide +kernel) rfl, GW_of (i := 564) (by decide +kernel) rfl, GW_of (i := 36) (by decide +kernel) rfl, (fun ψ => lt_s (lt_s (lt_s (lt_s (lt_s (lt_s (lt_s (lt_s (lt_s (lt_s (lt_0) rfl) rfl) rfl) rfl) rfl) rfl) rfl) rfl) rfl) rfl), by decide +kernel⟩
theorem cl_X7_174 : Cond.classLink RX7 174 RX2 ∈ GW := GW_of (i := 563) (by decide +kernel) rfl
theorem ni_X0_9 : NI RX0 9 2 [vI 0, vR none, vR none, vR none, vR none, vR none, vI 0, vI 0, vI 0, vI 0] 10 := ⟨RX2, TX2, tyX2, okX2, GW_of (i := 305) (by decide +kernel) rfl, GW_of (i := 564) (by decide +kernel) rfl, GW_of (i := 36) (by decide +kernel) rfl, (fun ψ => lt_s (lt_s (lt_s (lt_s (lt_s (lt_s (lt_s (lt_s (lt_s (lt_s (lt_0) rfl) rfl) rfl) rfl) rfl) rfl) rfl) rfl) rfl) rfl), by decide +kernel⟩
theorem cl_X0_9 : Cond.classLink RX0 9 RX2 ∈ GW := GW_of (i := 305) (by decide +kernel) rfl
theorem ni_X0_24 : NI RX0 24 5 [vI 0, vI 0, vI 0] 3 := ⟨RX5, TX5, tyX5, okX5, GW_of (i := 307) (by decide +kernel) rfl, GW_of (i := 120) (by decide +kernel) rfl, GW_of (i := 26) (by decide +kernel) rfl, (fun ψ => lt_s (lt_s (lt_s (lt_0) rfl) rfl) rfl), by decide +kernel⟩
theorem cl_X0_24 : Cond.classLink RX0 24 RX5 ∈ GW := GW_of (i := 307) (by decide +kernel) rfl
theorem ni_X4_18 : NI RX4 18 0 [vI 0, vI 0, vI 0, vR none, vI 0, vI 0, vI 0, vR none] 8 := ⟨RX0, TX0, tyX0, okX0, GW_of (i := 99) (by decide +kernel) rfl, GW_of (i := 300) (by decide +kernel) rfl, GW_of (i := 33) (by decide +kernel) rfl, (fun ψ => lt_s (lt_s (lt_s (lt_s (lt_s (lt_s (lt_s (lt_s (lt_0) rfl) rfl) rfl) rfl) rfl) rfl) rfl) rfl), by decide +kernel⟩
theorem cl_X4_18 : Cond.classLink RX4 18 RX0 ∈ GW := GW_of (i := 99) (by decide +kernel) rfl
theorem ni_L_44 : NI RL 44 7 [vI 0, vR none, vI 0, vR none, vI 0, vR none, vI 0, vR none, vR none, vR none] 10 := ⟨RX7, TX7, tyX7, okX7, GW_of (i := 47) (by decide +kernel) rfl, GW_of (i := 48) (by decide +kernel) rfl, GW_of (i := 23) (by decide +kernel) rfl, (fun ψ => lt_s (lt_s (lt_s (lt_s (lt_s (lt_s (lt_s (lt_s (lt_s (lt_s (lt_0) rfl) rfl) rfl) rfl) rfl) rfl) rfl) rfl) rfl) rfl), by decide +kernel⟩
theorem cl_L_44 : Cond.classLink RL 44 RX7 ∈ GW := GW_of (i := 47) (by decide +kernel) rfl
theorem cl_L_111 : Cond.classLink RL 111 "java/lang/IndexOutOfBoundsException" ∈ GW := GW_of (i := 41) (by decide +kernel) rfl
theorem cl_L_113 : Cond.classLink RL 113 "java/lang/IllegalStateException" ∈ GW := GW_of (i := 43) (by decide +kernel) rfl
theorem cl_L_234 : Cond.classLink RL 234 "java/lang/IllegalArgumentException" ∈ GW := GW_of (i := 42) (by decide +kernel) rfl
end
section
/-! METHODS AND CALLS: by program (gentab.py) -/
def mX0_appealsLeft : MI := (yX0_appealsLeft, cX0_appealsLeft, 2, (some FieldType.int), [], { frames := 0, cells := 0, slots := 0, locals := 0 })
theorem kiX0_appealsLeft : KI mX0_appealsLeft 1 := ⟨rfl, GW_of (i := 719) (by decide +kernel) rfl, GW_of (i := 33) (by decide +kernel) rfl, ⟨by decide +kernel, by decide +kernel⟩, by decide +kernel⟩
def mX0_canBeFenced : MI := (yX0_canBeFenced, cX0_canBeFenced, 1, (some FieldType.boolean), [], { frames := 2, cells := 0, slots := 0, locals := 40 })
theorem kiX0_canBeFenced : KI mX0_canBeFenced 0 := ⟨rfl, GW_of (i := 384) (by decide +kernel) rfl, GW_of (i := 33) (by decide +kernel) rfl, ⟨by decide +kernel, by decide +kernel⟩, by decide +kernel⟩
def mX0_countAnew : MI := (yX0_countAnew, cX0_countAnew, 4, none, [], { frames := 3, cells := 0, slots := 0, locals := 68 })
theorem kiX0_countAnew : KI mX0_countAnew 1 := ⟨rfl, GW_of (i := 861) (by decide +kernel) rfl, GW_of (i := 33) (by decide +kernel) rfl, ⟨by decide +kernel, by decide +kernel⟩, by decide +kernel⟩
def mX0_fencerAt : MI := (yX0_fencerAt, cX0_fencerAt, 2, (some FieldType.int), [], { frames := 0, cells := 0, slots := 0, locals := 0 })
theorem kiX0_fencerAt : KI mX0_fencerAt 1 := ⟨rfl, GW_of (i := 537) (by decide +kernel) rfl, GW_of (i := 33) (by decide +kernel) rfl, ⟨by decide +kernel, by decide +kernel⟩, by decide +kernel⟩
def mX0_forget : MI := (yX0_forget, cX0_forget, 2, none, [], { frames := 1, cells := 0, slots := 0, locals := 21 })
theorem kiX0_forget : KI mX0_forget 0 := ⟨rfl, GW_of (i := 545) (by decide +kernel) rfl, GW_of (i := 33) (by decide +kernel) rfl, ⟨by decide +kernel, by decide +kernel⟩, by decide +kernel⟩
def mX0_init : MI := (yX0_init, cX0_init, 4, none, [], { frames := 2, cells := 2, slots := 15, locals := 32 })
theorem kiX0_init : KI mX0_init 3 := ⟨rfl, GW_of (i := 303) (by decide +kernel) rfl, GW_of (i := 33) (by decide +kernel) rfl, ⟨by decide +kernel, by decide +kernel⟩, by decide +kernel⟩
def mX0_keep : MI := (yX0_keep, cX0_keep, 2, none, [], { frames := 4, cells := 0, slots := 0, locals := 87 })
theorem kiX0_keep : KI mX0_keep 1 := ⟨rfl, GW_of (i := 638) (by decide +kernel) rfl, GW_of (i := 33) (by decide +kernel) rfl, ⟨by decide +kernel, by decide +kernel⟩, by decide +kernel⟩
def mX0_phraseAt : MI := (yX0_phraseAt, cX0_phraseAt, 2, (some (FieldType.object "PisteLine$Phrase")), [], { frames := 0, cells := 0, slots := 0, locals := 0 })
theorem kiX0_phraseAt : KI mX0_phraseAt 1 := ⟨rfl, GW_of (i := 490) (by decide +kernel) rfl, GW_of (i := 33) (by decide +kernel) rfl, ⟨by decide +kernel, by decide +kernel⟩, by decide +kernel⟩
def mX0_recount : MI := (yX0_recount, cX0_recount, 3, none, [], { frames := 3, cells := 0, slots := 0, locals := 65 })
theorem kiX0_recount : KI mX0_recount 0 := ⟨rfl, GW_of (i := 486) (by decide +kernel) rfl, GW_of (i := 33) (by decide +kernel) rfl, ⟨by decide +kernel, by decide +kernel⟩, by decide +kernel⟩
def mX0_touchesLeft : MI := (yX0_touchesLeft, cX0_touchesLeft, 2, (some FieldType.int), [], { frames := 2, cells := 0, slots := 0, locals := 44 })
theorem kiX0_touchesLeft : KI mX0_touchesLeft 1 := ⟨rfl, GW_of (i := 494) (by decide +kernel) rfl, GW_of (i := 33) (by decide +kernel) rfl, ⟨by decide +kernel, by decide +kernel⟩, by decide +kernel⟩
def mX0_useAppeal : MI := (yX0_useAppeal, cX0_useAppeal, 2, none, [], { frames := 0, cells := 0, slots := 0, locals := 0 })
theorem kiX0_useAppeal : KI mX0_useAppeal 1 := ⟨rfl, GW_of (i := 729) (by decide +kernel) rfl, GW_of (i := 33) (by decide +kernel) rfl, ⟨by decide +kernel, by decide +kernel⟩, by decide +kernel⟩
def mX0_winningFencer : MI := (yX0_winningFencer, cX0_winningFencer, 2, (some FieldType.int), [], { frames := 2, cells := 0, slots := 0, locals := 40 })
theorem kiX0_winningFencer : KI mX0_winningFencer 0 := ⟨rfl, GW_of (i := 533) (by decide +kernel) rfl, GW_of (i := 33) (by decide +kernel) rfl, ⟨by decide +kernel, by decide +kernel⟩, by decide +kernel⟩
def mX0_winningSide : MI := (yX0_winningSide, cX0_winningSide, 1, (some FieldType.int), [], { frames := 1, cells := 0, slots := 0, locals := 20 })
theorem kiX0_winningSide : KI mX0_winningSide 0 := ⟨rfl, GW_of (i := 388) (by decide +kernel) rfl, GW_of (i := 33) (by decide +kernel) rfl, ⟨by decide +kernel, by decide +kernel⟩, by decide +kernel⟩
def mX1_add : MI := (yX1_add, cX1_add, 4, none, [], { frames := 0, cells := 0, slots := 0, locals := 0 })
theorem kiX1_add : KI mX1_add 3 := ⟨rfl, GW_of (i := 801) (by decide +kernel) rfl, GW_of (i := 31) (by decide +kernel) rfl, ⟨by decide +kernel, by decide +kernel⟩, by decide +kernel⟩
def mX1_clear : MI := (yX1_clear, cX1_clear, 1, none, [], { frames := 0, cells := 0, slots := 0, locals := 0 })
theorem kiX1_clear : KI mX1_clear 0 := ⟨rfl, GW_of (i := 789) (by decide +kernel) rfl, GW_of (i := 31) (by decide +kernel) rfl, ⟨by decide +kernel, by decide +kernel⟩, by decide +kernel⟩
def mX1_difference : MI := (yX1_difference, cX1_difference, 1, (some FieldType.int), [], { frames := 0, cells := 0, slots := 0, locals := 0 })
theorem kiX1_difference : KI mX1_difference 0 := ⟨rfl, GW_of (i := 820) (by decide +kernel) rfl, GW_of (i := 31) (by decide +kernel) rfl, ⟨by decide +kernel, by decide +kernel⟩, by decide +kernel⟩
def mX1_init : MI := (yX1_init, cX1_init, 2, none, [], { frames := 1, cells := 0, slots := 0, locals := 12 })
theorem kiX1_init : KI mX1_init 1 := ⟨rfl, GW_of (i := 249) (by decide +kernel) rfl, GW_of (i := 31) (by decide +kernel) rfl, ⟨by decide +kernel, by decide +kernel⟩, by decide +kernel⟩
def mX1_isAheadOf : MI := (yX1_isAheadOf, cX1_isAheadOf, 4, (some FieldType.boolean), [], { frames := 1, cells := 0, slots := 0, locals := 21 })
theorem kiX1_isAheadOf : KI mX1_isAheadOf 1 := ⟨rfl, GW_of (i := 813) (by decide +kernel) rfl, GW_of (i := 31) (by decide +kernel) rfl, ⟨by decide +kernel, by decide +kernel⟩, by decide +kernel⟩
def mX2_firstLight : MI := (yX2_firstLight, cX2_firstLight, 2, (some FieldType.int), [], { frames := 1, cells := 0, slots := 0, locals := 21 })
theorem kiX2_firstLight : KI mX2_firstLight 0 := ⟨rfl, GW_of (i := 618) (by decide +kernel) rfl, GW_of (i := 36) (by decide +kernel) rfl, ⟨by decide +kernel, by decide +kernel⟩, by decide +kernel⟩
def mX2_hear : MI := (yX2_hear, cX2_hear, 4, none, [], { frames := 1, cells := 0, slots := 0, locals := 20 })
theorem kiX2_hear : KI mX2_hear 3 := ⟨rfl, GW_of (i := 671) (by decide +kernel) rfl, GW_of (i := 36) (by decide +kernel) rfl, ⟨by decide +kernel, by decide +kernel⟩, by decide +kernel⟩
def mX2_init : MI := (yX2_init, cX2_init, 4, none, [], { frames := 1, cells := 3, slots := 24, locals := 12 })
theorem kiX2_init : KI mX2_init 3 := ⟨rfl, GW_of (i := 567) (by decide +kernel) rfl, GW_of (i := 36) (by decide +kernel) rfl, ⟨by decide +kernel, by decide +kernel⟩, by decide +kernel⟩
def mX2_isALight : MI := (yX2_isALight, cX2_isALight, 2, (some FieldType.boolean), [], { frames := 0, cells := 0, slots := 0, locals := 0 })
theorem kiX2_isALight : KI mX2_isALight 1 := ⟨rfl, GW_of (i := 622) (by decide +kernel) rfl, GW_of (i := 36) (by decide +kernel) rfl, ⟨by decide +kernel, by decide +kernel⟩, by decide +kernel⟩
def mX2_isFull : MI := (yX2_isFull, cX2_isFull, 1, (some FieldType.boolean), [], { frames := 0, cells := 0, slots := 0, locals := 0 })
theorem kiX2_isFull : KI mX2_isFull 0 := ⟨rfl, GW_of (i := 666) (by decide +kernel) rfl, GW_of (i := 36) (by decide +kernel) rfl, ⟨by decide +kernel, by decide +kernel⟩, by decide +kernel⟩
def mX2_judge : MI := (yX2_judge, cX2_judge, 4, (some FieldType.int), [], { frames := 2, cells := 0, slots := 0, locals := 45 })
theorem kiX2_judge : KI mX2_judge 0 := ⟨rfl, GW_of (i := 614) (by decide +kernel) rfl, GW_of (i := 36) (by decide +kernel) rfl, ⟨by decide +kernel, by decide +kernel⟩, by decide +kernel⟩
def mX2_latestTime : MI := (yX2_latestTime, cX2_latestTime, 1, (some FieldType.int), [], { frames := 0, cells := 0, slots := 0, locals := 0 })
theorem kiX2_latestTime : KI mX2_latestTime 0 := ⟨rfl, GW_of (i := 661) (by decide +kernel) rfl, GW_of (i := 36) (by decide +kernel) rfl, ⟨by decide +kernel, by decide +kernel⟩, by decide +kernel⟩
def mX2_otherLight : MI := (yX2_otherLight, cX2_otherLight, 5, (some FieldType.int), [], { frames := 1, cells := 0, slots := 0, locals := 21 })
theorem kiX2_otherLight : KI mX2_otherLight 1 := ⟨rfl, GW_of (i := 626) (by decide +kernel) rfl, GW_of (i := 36) (by decide +kernel) rfl, ⟨by decide +kernel, by decide +kernel⟩, by decide +kernel⟩
def mX2_rightAt : MI := (yX2_rightAt, cX2_rightAt, 4, (some FieldType.int), [], { frames := 0, cells := 0, slots := 0, locals := 0 })
theorem kiX2_rightAt : KI mX2_rightAt 1 := ⟨rfl, GW_of (i := 634) (by decide +kernel) rfl, GW_of (i := 36) (by decide +kernel) rfl, ⟨by decide +kernel, by decide +kernel⟩, by decide +kernel⟩
def mX2_tellRight : MI := (yX2_tellRight, cX2_tellRight, 2, none, [], { frames := 3, cells := 0, slots := 0, locals := 68 })
theorem kiX2_tellRight : KI mX2_tellRight 1 := ⟨rfl, GW_of (i := 724) (by decide +kernel) rfl, GW_of (i := 36) (by decide +kernel) rfl, ⟨by decide +kernel, by decide +kernel⟩, by decide +kernel⟩
def mX2_touchOf : MI := (yX2_touchOf, cX2_touchOf, 2, (some FieldType.int), [], { frames := 0, cells := 0, slots := 0, locals := 0 })
theorem kiX2_touchOf : KI mX2_touchOf 1 := ⟨rfl, GW_of (i := 630) (by decide +kernel) rfl, GW_of (i := 36) (by decide +kernel) rfl, ⟨by decide +kernel, by decide +kernel⟩, by decide +kernel⟩
def mX2_withoutStruck : MI := (yX2_withoutStruck, cX2_withoutStruck, 4, (some FieldType.int), [], { frames := 1, cells := 0, slots := 0, locals := 21 })
theorem kiX2_withoutStruck : KI mX2_withoutStruck 2 := ⟨rfl, GW_of (i := 498) (by decide +kernel) rfl, GW_of (i := 36) (by decide +kernel) rfl, ⟨by decide +kernel, by decide +kernel⟩, by decide +kernel⟩
def mX3_arm : MI := (yX3_arm, cX3_arm, 3, none, [], { frames := 0, cells := 0, slots := 0, locals := 0 })
theorem kiX3_arm : KI mX3_arm 2 := ⟨rfl, GW_of (i := 748) (by decide +kernel) rfl, GW_of (i := 24) (by decide +kernel) rfl, ⟨by decide +kernel, by decide +kernel⟩, by decide +kernel⟩
def mX3_empty : MI := (yX3_empty, cX3_empty, 1, none, [], { frames := 1, cells := 0, slots := 0, locals := 24 })
theorem kiX3_empty : KI mX3_empty 0 := ⟨rfl, GW_of (i := 549) (by decide +kernel) rfl, GW_of (i := 24) (by decide +kernel) rfl, ⟨by decide +kernel, by decide +kernel⟩, by decide +kernel⟩
def mX3_init : MI := (yX3_init, cX3_init, 1, none, [], { frames := 1, cells := 0, slots := 0, locals := 12 })
theorem kiX3_init : KI mX3_init 0 := ⟨rfl, GW_of (i := 65) (by decide +kernel) rfl, GW_of (i := 24) (by decide +kernel) rfl, ⟨by decide +kernel, by decide +kernel⟩, by decide +kernel⟩
def mX3_take : MI := (yX3_take, cX3_take, 5, none, [], { frames := 0, cells := 0, slots := 0, locals := 0 })
theorem kiX3_take : KI mX3_take 4 := ⟨rfl, GW_of (i := 402) (by decide +kernel) rfl, GW_of (i := 24) (by decide +kernel) rfl, ⟨by decide +kernel, by decide +kernel⟩, by decide +kernel⟩
def mX3_weaponNumber : MI := (yX3_weaponNumber, cX3_weaponNumber, 3, (some FieldType.int), [], { frames := 0, cells := 0, slots := 0, locals := 0 })
theorem kiX3_weaponNumber : KI mX3_weaponNumber 1 := ⟨rfl, GW_of (i := 744) (by decide +kernel) rfl, GW_of (i := 24) (by decide +kernel) rfl, ⟨by decide +kernel, by decide +kernel⟩, by decide +kernel⟩
def mX4_boutAt : MI := (yX4_boutAt, cX4_boutAt, 2, (some (FieldType.object "PisteLine$Bout")), [], { frames := 0, cells := 0, slots := 0, locals := 0 })
theorem kiX4_boutAt : KI mX4_boutAt 1 := ⟨rfl, GW_of (i := 360) (by decide +kernel) rfl, GW_of (i := 25) (by decide +kernel) rfl, ⟨by decide +kernel, by decide +kernel⟩, by decide +kernel⟩
def mX4_drop : MI := (yX4_drop, cX4_drop, 3, none, [], { frames := 2, cells := 0, slots := 0, locals := 44 })
theorem kiX4_drop : KI mX4_drop 2 := ⟨rfl, GW_of (i := 541) (by decide +kernel) rfl, GW_of (i := 25) (by decide +kernel) rfl, ⟨by decide +kernel, by decide +kernel⟩, by decide +kernel⟩
def mX4_hasNode : MI := (yX4_hasNode, cX4_hasNode, 2, (some FieldType.boolean), [], { frames := 0, cells := 0, slots := 0, locals := 0 })
theorem kiX4_hasNode : KI mX4_hasNode 1 := ⟨rfl, GW_of (i := 521) (by decide +kernel) rfl, GW_of (i := 25) (by decide +kernel) rfl, ⟨by decide +kernel, by decide +kernel⟩, by decide +kernel⟩
def mX4_init : MI := (yX4_init, cX4_init, 1, none, [], { frames := 1, cells := 3, slots := 64, locals := 12 })
theorem kiX4_init : KI mX4_init 0 := ⟨rfl, GW_of (i := 97) (by decide +kernel) rfl, GW_of (i := 25) (by decide +kernel) rfl, ⟨by decide +kernel, by decide +kernel⟩, by decide +kernel⟩
def mX4_isDrawn : MI := (yX4_isDrawn, cX4_isDrawn, 1, (some FieldType.boolean), [], { frames := 0, cells := 0, slots := 0, locals := 0 })
theorem kiX4_isDrawn : KI mX4_isDrawn 0 := ⟨rfl, GW_of (i := 482) (by decide +kernel) rfl, GW_of (i := 25) (by decide +kernel) rfl, ⟨by decide +kernel, by decide +kernel⟩, by decide +kernel⟩
def mX4_lay : MI := (yX4_lay, cX4_lay, 4, none, [], { frames := 3, cells := 45, slots := 345, locals := 55 })
theorem kiX4_lay : KI mX4_lay 1 := ⟨rfl, GW_of (i := 776) (by decide +kernel) rfl, GW_of (i := 25) (by decide +kernel) rfl, ⟨by decide +kernel, by decide +kernel⟩, by decide +kernel⟩
def mX4_laySeeds : MI := (yX4_laySeeds, cX4_laySeeds, 4, none, [], { frames := 0, cells := 0, slots := 0, locals := 0 })
theorem kiX4_laySeeds : KI mX4_laySeeds 0 := ⟨rfl, GW_of (i := 781) (by decide +kernel) rfl, GW_of (i := 25) (by decide +kernel) rfl, ⟨by decide +kernel, by decide +kernel⟩, by decide +kernel⟩
def mX4_recount : MI := (yX4_recount, cX4_recount, 3, none, [], { frames := 4, cells := 0, slots := 0, locals := 87 })
theorem kiX4_recount : KI mX4_recount 0 := ⟨rfl, GW_of (i := 511) (by decide +kernel) rfl, GW_of (i := 25) (by decide +kernel) rfl, ⟨by decide +kernel, by decide +kernel⟩, by decide +kernel⟩
def mX4_seat : MI := (yX4_seat, cX4_seat, 4, none, [], { frames := 0, cells := 0, slots := 0, locals := 0 })
theorem kiX4_seat : KI mX4_seat 2 := ⟨rfl, GW_of (i := 824) (by decide +kernel) rfl, GW_of (i := 25) (by decide +kernel) rfl, ⟨by decide +kernel, by decide +kernel⟩, by decide +kernel⟩
def mX4_settle : MI := (yX4_settle, cX4_settle, 5, none, [], { frames := 4, cells := 0, slots := 0, locals := 84 })
theorem kiX4_settle : KI mX4_settle 1 := ⟨rfl, GW_of (i := 517) (by decide +kernel) rfl, GW_of (i := 25) (by decide +kernel) rfl, ⟨by decide +kernel, by decide +kernel⟩, by decide +kernel⟩
def mX4_winnerAt : MI := (yX4_winnerAt, cX4_winnerAt, 2, (some FieldType.int), [], { frames := 1, cells := 0, slots := 0, locals := 21 })
theorem kiX4_winnerAt : KI mX4_winnerAt 1 := ⟨rfl, GW_of (i := 525) (by decide +kernel) rfl, GW_of (i := 25) (by decide +kernel) rfl, ⟨by decide +kernel, by decide +kernel⟩, by decide +kernel⟩
def mX4_winnerNow : MI := (yX4_winnerNow, cX4_winnerNow, 4, (some FieldType.int), [], { frames := 3, cells := 0, slots := 0, locals := 61 })
theorem kiX4_winnerNow : KI mX4_winnerNow 2 := ⟨rfl, GW_of (i := 529) (by decide +kernel) rfl, GW_of (i := 25) (by decide +kernel) rfl, ⟨by decide +kernel, by decide +kernel⟩, by decide +kernel⟩
def mX5_add : MI := (yX5_add, cX5_add, 4, none, [], { frames := 1, cells := 0, slots := 0, locals := 20 })
theorem kiX5_add : KI mX5_add 1 := ⟨rfl, GW_of (i := 506) (by decide +kernel) rfl, GW_of (i := 26) (by decide +kernel) rfl, ⟨by decide +kernel, by decide +kernel⟩, by decide +kernel⟩
def mX5_init : MI := (yX5_init, cX5_init, 1, none, [], { frames := 1, cells := 0, slots := 0, locals := 12 })
theorem kiX5_init : KI mX5_init 0 := ⟨rfl, GW_of (i := 123) (by decide +kernel) rfl, GW_of (i := 26) (by decide +kernel) rfl, ⟨by decide +kernel, by decide +kernel⟩, by decide +kernel⟩
def mX5_isAtGoal : MI := (yX5_isAtGoal, cX5_isAtGoal, 1, (some FieldType.boolean), [], { frames := 0, cells := 0, slots := 0, locals := 0 })
theorem kiX5_isAtGoal : KI mX5_isAtGoal 0 := ⟨rfl, GW_of (i := 392) (by decide +kernel) rfl, GW_of (i := 26) (by decide +kernel) rfl, ⟨by decide +kernel, by decide +kernel⟩, by decide +kernel⟩
def mX5_of : MI := (yX5_of, cX5_of, 2, (some FieldType.int), [], { frames := 0, cells := 0, slots := 0, locals := 0 })
theorem kiX5_of : KI mX5_of 1 := ⟨rfl, GW_of (i := 797) (by decide +kernel) rfl, GW_of (i := 26) (by decide +kernel) rfl, ⟨by decide +kernel, by decide +kernel⟩, by decide +kernel⟩
def mX5_restart : MI := (yX5_restart, cX5_restart, 2, none, [], { frames := 0, cells := 0, slots := 0, locals := 0 })
theorem kiX5_restart : KI mX5_restart 1 := ⟨rfl, GW_of (i := 312) (by decide +kernel) rfl, GW_of (i := 26) (by decide +kernel) rfl, ⟨by decide +kernel, by decide +kernel⟩, by decide +kernel⟩
def mX6_init : MI := (yX6_init, cX6_init, 3, none, [], { frames := 1, cells := 0, slots := 0, locals := 12 })
theorem kiX6_init : KI mX6_init 2 := ⟨rfl, GW_of (i := 449) (by decide +kernel) rfl, GW_of (i := 35) (by decide +kernel) rfl, ⟨by decide +kernel, by decide +kernel⟩, by decide +kernel⟩
def mX6_isFalse : MI := (yX6_isFalse, cX6_isFalse, 2, (some FieldType.boolean), [], { frames := 0, cells := 0, slots := 0, locals := 0 })
theorem kiX6_isFalse : KI mX6_isFalse 1 := ⟨rfl, GW_of (i := 502) (by decide +kernel) rfl, GW_of (i := 35) (by decide +kernel) rfl, ⟨by decide +kernel, by decide +kernel⟩, by decide +kernel⟩
def mX6_isMarkedFor : MI := (yX6_isMarkedFor, cX6_isMarkedFor, 2, (some FieldType.boolean), [], { frames := 0, cells := 0, slots := 0, locals := 0 })
theorem kiX6_isMarkedFor : KI mX6_isMarkedFor 1 := ⟨rfl, GW_of (i := 397) (by decide +kernel) rfl, GW_of (i := 35) (by decide +kernel) rfl, ⟨by decide +kernel, by decide +kernel⟩, by decide +kernel⟩
def mX7_addPoolBout : MI := (yX7_addPoolBout, cX7_addPoolBout, 3, none, [], { frames := 3, cells := 3, slots := 23, locals := 55 })
theorem kiX7_addPoolBout : KI mX7_addPoolBout 2 := ⟨rfl, GW_of (i := 299) (by decide +kernel) rfl, GW_of (i := 23) (by decide +kernel) rfl, ⟨by decide +kernel, by decide +kernel⟩, by decide +kernel⟩
def mX7_allez : MI := (yX7_allez, cX7_allez, 4, (some FieldType.int), [], { frames := 6, cells := 4, slots := 34, locals := 82 })
theorem kiX7_allez : KI mX7_allez 0 := ⟨rfl, GW_of (i := 560) (by decide +kernel) rfl, GW_of (i := 23) (by decide +kernel) rfl, ⟨by decide +kernel, by decide +kernel⟩, by decide +kernel⟩
def mX7_appeal : MI := (yX7_appeal, cX7_appeal, 7, (some FieldType.int), [], { frames := 6, cells := 1, slots := 6, locals := 108 })
theorem kiX7_appeal : KI mX7_appeal 2 := ⟨rfl, GW_of (i := 712) (by decide +kernel) rfl, GW_of (i := 23) (by decide +kernel) rfl, ⟨by decide +kernel, by decide +kernel⟩, by decide +kernel⟩
def mX7_appeals : MI := (yX7_appeals, cX7_appeals, 4, (some FieldType.int), [], { frames := 6, cells := 1, slots := 6, locals := 82 })
theorem kiX7_appeals : KI mX7_appeals 2 := ⟨rfl, GW_of (i := 866) (by decide +kernel) rfl, GW_of (i := 23) (by decide +kernel) rfl, ⟨by decide +kernel, by decide +kernel⟩, by decide +kernel⟩
def mX7_arePoolsDrawn : MI := (yX7_arePoolsDrawn, cX7_arePoolsDrawn, 1, (some FieldType.boolean), [], { frames := 0, cells := 0, slots := 0, locals := 0 })
theorem kiX7_arePoolsDrawn : KI mX7_arePoolsDrawn 0 := ⟨rfl, GW_of (i := 176) (by decide +kernel) rfl, GW_of (i := 23) (by decide +kernel) rfl, ⟨by decide +kernel, by decide +kernel⟩, by decide +kernel⟩
def mX7_begin : MI := (yX7_begin, cX7_begin, 7, (some FieldType.int), [], { frames := 6, cells := 1, slots := 6, locals := 82 })
theorem kiX7_begin : KI mX7_begin 3 := ⟨rfl, GW_of (i := 352) (by decide +kernel) rfl, GW_of (i := 23) (by decide +kernel) rfl, ⟨by decide +kernel, by decide +kernel⟩, by decide +kernel⟩
def mX7_boutAt : MI := (yX7_boutAt, cX7_boutAt, 2, (some (FieldType.object "PisteLine$Bout")), [], { frames := 1, cells := 0, slots := 0, locals := 21 })
theorem kiX7_boutAt : KI mX7_boutAt 1 := ⟨rfl, GW_of (i := 356) (by decide +kernel) rfl, GW_of (i := 23) (by decide +kernel) rfl, ⟨by decide +kernel, by decide +kernel⟩, by decide +kernel⟩
def mX7_change : MI := (yX7_change, cX7_change, 6, (some FieldType.int), [], { frames := 6, cells := 1, slots := 6, locals := 82 })
theorem kiX7_change : KI mX7_change 2 := ⟨rfl, GW_of (i := 737) (by decide +kernel) rfl, GW_of (i := 23) (by decide +kernel) rfl, ⟨by decide +kernel, by decide +kernel⟩, by decide +kernel⟩
def mX7_contact : MI := (yX7_contact, cX7_contact, 5, (some FieldType.int), [], { frames := 6, cells := 1, slots := 6, locals := 82 })
theorem kiX7_contact : KI mX7_contact 3 := ⟨rfl, GW_of (i := 676) (by decide +kernel) rfl, GW_of (i := 23) (by decide +kernel) rfl, ⟨by decide +kernel, by decide +kernel⟩, by decide +kernel⟩
def mX7_countPools : MI := (yX7_countPools, cX7_countPools, 3, none, [], { frames := 3, cells := 0, slots := 0, locals := 63 })
theorem kiX7_countPools : KI mX7_countPools 0 := ⟨rfl, GW_of (i := 785) (by decide +kernel) rfl, GW_of (i := 23) (by decide +kernel) rfl, ⟨by decide +kernel, by decide +kernel⟩, by decide +kernel⟩
def mX7_countSide : MI := (yX7_countSide, cX7_countSide, 4, none, [], { frames := 2, cells := 0, slots := 0, locals := 40 })
theorem kiX7_countSide : KI mX7_countSide 2 := ⟨rfl, GW_of (i := 793) (by decide +kernel) rfl, GW_of (i := 23) (by decide +kernel) rfl, ⟨by decide +kernel, by decide +kernel⟩, by decide +kernel⟩
def mX7_drawPool : MI := (yX7_drawPool, cX7_drawPool, 5, none, [], { frames := 4, cells := 198, slots := 1518, locals := 77 })
theorem kiX7_drawPool : KI mX7_drawPool 2 := ⟨rfl, GW_of (i := 292) (by decide +kernel) rfl, GW_of (i := 23) (by decide +kernel) rfl, ⟨by decide +kernel, by decide +kernel⟩, by decide +kernel⟩
def mX7_drawPools : MI := (yX7_drawPools, cX7_drawPools, 3, (some FieldType.int), [], { frames := 6, cells := 792, slots := 6072, locals := 101 })
theorem kiX7_drawPools : KI mX7_drawPools 1 := ⟨rfl, GW_of (i := 271) (by decide +kernel) rfl, GW_of (i := 23) (by decide +kernel) rfl, ⟨by decide +kernel, by decide +kernel⟩, by decide +kernel⟩
def mX7_drawTableau : MI := (yX7_drawTableau, cX7_drawTableau, 2, (some FieldType.int), [], { frames := 6, cells := 45, slots := 345, locals := 108 })
theorem kiX7_drawTableau : KI mX7_drawTableau 0 := ⟨rfl, GW_of (i := 764) (by decide +kernel) rfl, GW_of (i := 23) (by decide +kernel) rfl, ⟨by decide +kernel, by decide +kernel⟩, by decide +kernel⟩
def mX7_fail : MI := (yX7_fail, cX7_fail, 4, none, [], { frames := 5, cells := 0, slots := 0, locals := 109 })
theorem kiX7_fail : KI mX7_fail 1 := ⟨rfl, GW_of (i := 478) (by decide +kernel) rfl, GW_of (i := 23) (by decide +kernel) rfl, ⟨by decide +kernel, by decide +kernel⟩, by decide +kernel⟩
def mX7_fencer : MI := (yX7_fencer, cX7_fencer, 2, (some FieldType.int), [], { frames := 6, cells := 1, slots := 6, locals := 82 })
theorem kiX7_fencer : KI mX7_fencer 0 := ⟨rfl, GW_of (i := 172) (by decide +kernel) rfl, GW_of (i := 23) (by decide +kernel) rfl, ⟨by decide +kernel, by decide +kernel⟩, by decide +kernel⟩
def mX7_fencerAt : MI := (yX7_fencerAt, cX7_fencerAt, 2, (some (FieldType.object "PisteLine$Fencer")), [], { frames := 0, cells := 0, slots := 0, locals := 0 })
theorem kiX7_fencerAt : KI mX7_fencerAt 1 := ⟨rfl, GW_of (i := 443) (by decide +kernel) rfl, GW_of (i := 23) (by decide +kernel) rfl, ⟨by decide +kernel, by decide +kernel⟩, by decide +kernel⟩
def mX7_fencerInPlace : MI := (yX7_fencerInPlace, cX7_fencerInPlace, 4, (some FieldType.int), [], { frames := 3, cells := 0, slots := 0, locals := 68 })
theorem kiX7_fencerInPlace : KI mX7_fencerInPlace 1 := ⟨rfl, GW_of (i := 805) (by decide +kernel) rfl, GW_of (i := 23) (by decide +kernel) rfl, ⟨by decide +kernel, by decide +kernel⟩, by decide +kernel⟩
def mX7_fencerOf : MI := (yX7_fencerOf, cX7_fencerOf, 4, (some FieldType.int), [], { frames := 6, cells := 1, slots := 6, locals := 82 })
theorem kiX7_fencerOf : KI mX7_fencerOf 2 := ⟨rfl, GW_of (i := 870) (by decide +kernel) rfl, GW_of (i := 23) (by decide +kernel) rfl, ⟨by decide +kernel, by decide +kernel⟩, by decide +kernel⟩
def mX7_fencersAhead : MI := (yX7_fencersAhead, cX7_fencersAhead, 5, (some FieldType.int), [], { frames := 2, cells := 0, slots := 0, locals := 44 })
theorem kiX7_fencersAhead : KI mX7_fencersAhead 1 := ⟨rfl, GW_of (i := 809) (by decide +kernel) rfl, GW_of (i := 23) (by decide +kernel) rfl, ⟨by decide +kernel, by decide +kernel⟩, by decide +kernel⟩
def mX7_gone : MI := (yX7_gone, cX7_gone, 1, (some FieldType.int), [], { frames := 0, cells := 0, slots := 0, locals := 0 })
theorem kiX7_gone : KI mX7_gone 0 := ⟨rfl, GW_of (i := 843) (by decide +kernel) rfl, GW_of (i := 23) (by decide +kernel) rfl, ⟨by decide +kernel, by decide +kernel⟩, by decide +kernel⟩
def mX7_halt : MI := (yX7_halt, cX7_halt, 3, (some FieldType.int), [], { frames := 6, cells := 1, slots := 6, locals := 108 })
theorem kiX7_halt : KI mX7_halt 0 := ⟨rfl, GW_of (i := 609) (by decide +kernel) rfl, GW_of (i := 23) (by decide +kernel) rfl, ⟨by decide +kernel, by decide +kernel⟩, by decide +kernel⟩
def mX7_index : MI := (yX7_index, cX7_index, 3, (some FieldType.int), [], { frames := 6, cells := 1, slots := 6, locals := 85 })
theorem kiX7_index : KI mX7_index 1 := ⟨rfl, GW_of (i := 903) (by decide +kernel) rfl, GW_of (i := 23) (by decide +kernel) rfl, ⟨by decide +kernel, by decide +kernel⟩, by decide +kernel⟩
def mX7_init : MI := (yX7_init, cX7_init, 2, none, [], { frames := 2, cells := 9, slots := 180, locals := 32 })
theorem kiX7_init : KI mX7_init 1 := ⟨rfl, GW_of (i := 51) (by decide +kernel) rfl, GW_of (i := 23) (by decide +kernel) rfl, ⟨by decide +kernel, by decide +kernel⟩, by decide +kernel⟩
def mX7_isAPoolBoutOpen : MI := (yX7_isAPoolBoutOpen, cX7_isAPoolBoutOpen, 3, (some FieldType.boolean), [], { frames := 2, cells := 0, slots := 0, locals := 40 })
theorem kiX7_isAPoolBoutOpen : KI mX7_isAPoolBoutOpen 0 := ⟨rfl, GW_of (i := 768) (by decide +kernel) rfl, GW_of (i := 23) (by decide +kernel) rfl, ⟨by decide +kernel, by decide +kernel⟩, by decide +kernel⟩
def mX7_isFencing : MI := (yX7_isFencing, cX7_isFencing, 1, (some FieldType.boolean), [], { frames := 0, cells := 0, slots := 0, locals := 0 })
theorem kiX7_isFencing : KI mX7_isFencing 0 := ⟨rfl, GW_of (i := 683) (by decide +kernel) rfl, GW_of (i := 23) (by decide +kernel) rfl, ⟨by decide +kernel, by decide +kernel⟩, by decide +kernel⟩
def mX7_isSide : MI := (yX7_isSide, cX7_isSide, 1, (some FieldType.boolean), [], { frames := 0, cells := 0, slots := 0, locals := 0 })
theorem kiX7_isSide : KI mX7_isSide 1 := ⟨rfl, GW_of (i := 653) (by decide +kernel) rfl, GW_of (i := 23) (by decide +kernel) rfl, ⟨by decide +kernel, by decide +kernel⟩, by decide +kernel⟩
def mX7_isSideOrNone : MI := (yX7_isSideOrNone, cX7_isSideOrNone, 1, (some FieldType.boolean), [], { frames := 1, cells := 0, slots := 0, locals := 20 })
theorem kiX7_isSideOrNone : KI mX7_isSideOrNone 1 := ⟨rfl, GW_of (i := 650) (by decide +kernel) rfl, GW_of (i := 23) (by decide +kernel) rfl, ⟨by decide +kernel, by decide +kernel⟩, by decide +kernel⟩
def mX7_isTooEarly : MI := (yX7_isTooEarly, cX7_isTooEarly, 3, (some FieldType.boolean), [], { frames := 1, cells := 0, slots := 0, locals := 20 })
theorem kiX7_isTooEarly : KI mX7_isTooEarly 1 := ⟨rfl, GW_of (i := 657) (by decide +kernel) rfl, GW_of (i := 23) (by decide +kernel) rfl, ⟨by decide +kernel, by decide +kernel⟩, by decide +kernel⟩
def mX7_mark : MI := (yX7_mark, cX7_mark, 3, (some FieldType.int), [], { frames := 6, cells := 1, slots := 6, locals := 82 })
theorem kiX7_mark : KI mX7_mark 1 := ⟨rfl, GW_of (i := 895) (by decide +kernel) rfl, GW_of (i := 23) (by decide +kernel) rfl, ⟨by decide +kernel, by decide +kernel⟩, by decide +kernel⟩
def mX7_nodeWinner : MI := (yX7_nodeWinner, cX7_nodeWinner, 2, (some FieldType.int), [], { frames := 6, cells := 1, slots := 6, locals := 82 })
theorem kiX7_nodeWinner : KI mX7_nodeWinner 1 := ⟨rfl, GW_of (i := 885) (by decide +kernel) rfl, GW_of (i := 23) (by decide +kernel) rfl, ⟨by decide +kernel, by decide +kernel⟩, by decide +kernel⟩
def mX7_owner : MI := (yX7_owner, cX7_owner, 3, (some FieldType.int), [], { frames := 6, cells := 1, slots := 6, locals := 82 })
theorem kiX7_owner : KI mX7_owner 1 := ⟨rfl, GW_of (i := 891) (by decide +kernel) rfl, GW_of (i := 23) (by decide +kernel) rfl, ⟨by decide +kernel, by decide +kernel⟩, by decide +kernel⟩
def mX7_phrases : MI := (yX7_phrases, cX7_phrases, 3, (some FieldType.int), [], { frames := 6, cells := 1, slots := 6, locals := 82 })
theorem kiX7_phrases : KI mX7_phrases 1 := ⟨rfl, GW_of (i := 847) (by decide +kernel) rfl, GW_of (i := 23) (by decide +kernel) rfl, ⟨by decide +kernel, by decide +kernel⟩, by decide +kernel⟩
def mX7_piste : MI := (yX7_piste, cX7_piste, 1, (some FieldType.int), [], { frames := 0, cells := 0, slots := 0, locals := 0 })
theorem kiX7_piste : KI mX7_piste 0 := ⟨rfl, GW_of (i := 831) (by decide +kernel) rfl, GW_of (i := 23) (by decide +kernel) rfl, ⟨by decide +kernel, by decide +kernel⟩, by decide +kernel⟩
def mX7_poolOf : MI := (yX7_poolOf, cX7_poolOf, 2, (some FieldType.int), [], { frames := 0, cells := 0, slots := 0, locals := 0 })
theorem kiX7_poolOf : KI mX7_poolOf 2 := ⟨rfl, GW_of (i := 295) (by decide +kernel) rfl, GW_of (i := 23) (by decide +kernel) rfl, ⟨by decide +kernel, by decide +kernel⟩, by decide +kernel⟩
def mX7_rankedAt : MI := (yX7_rankedAt, cX7_rankedAt, 2, (some FieldType.int), [], { frames := 6, cells := 1, slots := 6, locals := 91 })
theorem kiX7_rankedAt : KI mX7_rankedAt 1 := ⟨rfl, GW_of (i := 908) (by decide +kernel) rfl, GW_of (i := 23) (by decide +kernel) rfl, ⟨by decide +kernel, by decide +kernel⟩, by decide +kernel⟩
def mX7_right : MI := (yX7_right, cX7_right, 4, (some FieldType.int), [], { frames := 6, cells := 1, slots := 6, locals := 82 })
theorem kiX7_right : KI mX7_right 2 := ⟨rfl, GW_of (i := 647) (by decide +kernel) rfl, GW_of (i := 23) (by decide +kernel) rfl, ⟨by decide +kernel, by decide +kernel⟩, by decide +kernel⟩
def mX7_score : MI := (yX7_score, cX7_score, 4, (some FieldType.int), [], { frames := 6, cells := 1, slots := 6, locals := 82 })
theorem kiX7_score : KI mX7_score 2 := ⟨rfl, GW_of (i := 852) (by decide +kernel) rfl, GW_of (i := 23) (by decide +kernel) rfl, ⟨by decide +kernel, by decide +kernel⟩, by decide +kernel⟩
def mX7_scoreAnew : MI := (yX7_scoreAnew, cX7_scoreAnew, 4, (some FieldType.int), [], { frames := 6, cells := 1, slots := 6, locals := 91 })
theorem kiX7_scoreAnew : KI mX7_scoreAnew 2 := ⟨rfl, GW_of (i := 857) (by decide +kernel) rfl, GW_of (i := 23) (by decide +kernel) rfl, ⟨by decide +kernel, by decide +kernel⟩, by decide +kernel⟩
def mX7_size : MI := (yX7_size, cX7_size, 1, (some FieldType.int), [], { frames := 0, cells := 0, slots := 0, locals := 0 })
theorem kiX7_size : KI mX7_size 0 := ⟨rfl, GW_of (i := 839) (by decide +kernel) rfl, GW_of (i := 23) (by decide +kernel) rfl, ⟨by decide +kernel, by decide +kernel⟩, by decide +kernel⟩
def mX7_test : MI := (yX7_test, cX7_test, 6, (some FieldType.boolean), [], { frames := 6, cells := 1, slots := 6, locals := 132 })
theorem kiX7_test : KI mX7_test 3 := ⟨rfl, GW_of (i := 471) (by decide +kernel) rfl, GW_of (i := 23) (by decide +kernel) rfl, ⟨by decide +kernel, by decide +kernel⟩, by decide +kernel⟩
def mX7_touches : MI := (yX7_touches, cX7_touches, 5, (some FieldType.int), [], { frames := 6, cells := 1, slots := 6, locals := 82 })
theorem kiX7_touches : KI mX7_touches 2 := ⟨rfl, GW_of (i := 880) (by decide +kernel) rfl, GW_of (i := 23) (by decide +kernel) rfl, ⟨by decide +kernel, by decide +kernel⟩, by decide +kernel⟩
def mX7_weapon : MI := (yX7_weapon, cX7_weapon, 3, (some FieldType.int), [], { frames := 6, cells := 1, slots := 6, locals := 82 })
theorem kiX7_weapon : KI mX7_weapon 1 := ⟨rfl, GW_of (i := 439) (by decide +kernel) rfl, GW_of (i := 23) (by decide +kernel) rfl, ⟨by decide +kernel, by decide +kernel⟩, by decide +kernel⟩
def mX7_weaponAt : MI := (yX7_weaponAt, cX7_weaponAt, 2, (some (FieldType.object "PisteLine$Weapon")), [], { frames := 0, cells := 0, slots := 0, locals := 0 })
theorem kiX7_weaponAt : KI mX7_weaponAt 1 := ⟨rfl, GW_of (i := 364) (by decide +kernel) rfl, GW_of (i := 23) (by decide +kernel) rfl, ⟨by decide +kernel, by decide +kernel⟩, by decide +kernel⟩
def mX7_weaponOf : MI := (yX7_weaponOf, cX7_weaponOf, 2, (some FieldType.int), [], { frames := 6, cells := 1, slots := 6, locals := 82 })
theorem kiX7_weaponOf : KI mX7_weaponOf 1 := ⟨rfl, GW_of (i := 835) (by decide +kernel) rfl, GW_of (i := 23) (by decide +kernel) rfl, ⟨by decide +kernel, by decide +kernel⟩, by decide +kernel⟩
def mX7_winner : MI := (yX7_winner, cX7_winner, 3, (some FieldType.int), [], { frames := 6, cells := 1, slots := 6, locals := 82 })
theorem kiX7_winner : KI mX7_winner 1 := ⟨rfl, GW_of (i := 874) (by decide +kernel) rfl, GW_of (i := 23) (by decide +kernel) rfl, ⟨by decide +kernel, by decide +kernel⟩, by decide +kernel⟩
def mX7_won : MI := (yX7_won, cX7_won, 3, (some FieldType.int), [], { frames := 6, cells := 1, slots := 6, locals := 85 })
theorem kiX7_won : KI mX7_won 1 := ⟨rfl, GW_of (i := 899) (by decide +kernel) rfl, GW_of (i := 23) (by decide +kernel) rfl, ⟨by decide +kernel, by decide +kernel⟩, by decide +kernel⟩
theorem ca_X0_82 : VI RX0 82 mX0_winningSide 0 0 := ⟨kiX0_winningSide, GW_of (i := 385) (by decide +kernel) rfl, GW_of (i := 386) (by decide +kernel) rfl, GW_of (i := 387) (by decide +kernel) rfl, TX0, 8, rfl⟩
theorem ca_X0_41 : VI RX0 41 mX5_restart 1 5 := ⟨kiX5_restart, GW_of (i := 309) (by decide +kernel) rfl, GW_of (i := 310) (by decide +kernel) rfl, GW_of (i := 311) (by decide +kernel) rfl, TX5, 3, rfl⟩
theorem ca_X0_61 : VI RX0 61 mX0_phraseAt 1 0 := ⟨kiX0_phraseAt, GW_of (i := 487) (by decide +kernel) rfl, GW_of (i := 488) (by decide +kernel) rfl, GW_of (i := 489) (by decide +kernel) rfl, TX0, 8, rfl⟩
theorem ca_X0_72 : VI RX0 72 mX2_judge 0 2 := ⟨kiX2_judge, GW_of (i := 862) (by decide +kernel) rfl, GW_of (i := 612) (by decide +kernel) rfl, GW_of (i := 613) (by decide +kernel) rfl, TX2, 10, rfl⟩
theorem ca_X0_57 : VI RX0 57 mX2_withoutStruck 2 2 := ⟨kiX2_withoutStruck, GW_of (i := 495) (by decide +kernel) rfl, GW_of (i := 496) (by decide +kernel) rfl, GW_of (i := 497) (by decide +kernel) rfl, TX2, 10, rfl⟩
theorem ca_X0_69 : VI RX0 69 mX5_add 1 5 := ⟨kiX5_add, GW_of (i := 503) (by decide +kernel) rfl, GW_of (i := 504) (by decide +kernel) rfl, GW_of (i := 505) (by decide +kernel) rfl, TX5, 3, rfl⟩
theorem ca_X0_26 : IN RX0 26 mX5_init 0 "PisteLine" := ⟨kiX5_init, EW_of (i := 308) (by decide +kernel) rfl, GW_of (i := 122) (by decide +kernel) rfl, rfl⟩
theorem ca_X0_48 : VI RX0 48 mX0_recount 0 0 := ⟨kiX0_recount, GW_of (i := 639) (by decide +kernel) rfl, GW_of (i := 484) (by decide +kernel) rfl, GW_of (i := 485) (by decide +kernel) rfl, TX0, 8, rfl⟩
theorem ca_X0_65 : VI RX0 65 mX0_touchesLeft 1 0 := ⟨kiX0_touchesLeft, GW_of (i := 491) (by decide +kernel) rfl, GW_of (i := 492) (by decide +kernel) rfl, GW_of (i := 493) (by decide +kernel) rfl, TX0, 8, rfl⟩
theorem ca_X0_85 : VI RX0 85 mX0_fencerAt 1 0 := ⟨kiX0_fencerAt, GW_of (i := 534) (by decide +kernel) rfl, GW_of (i := 535) (by decide +kernel) rfl, GW_of (i := 536) (by decide +kernel) rfl, TX0, 8, rfl⟩
theorem ca_X0_76 : VI RX0 76 mX5_isAtGoal 0 5 := ⟨kiX5_isAtGoal, GW_of (i := 389) (by decide +kernel) rfl, GW_of (i := 390) (by decide +kernel) rfl, GW_of (i := 391) (by decide +kernel) rfl, TX5, 3, rfl⟩
theorem ca_X1_31 : VI RX1 31 mX1_difference 0 1 := ⟨kiX1_difference, GW_of (i := 817) (by decide +kernel) rfl, GW_of (i := 818) (by decide +kernel) rfl, GW_of (i := 819) (by decide +kernel) rfl, TX1, 5, rfl⟩
theorem ca_X2_72 : VI RX2 72 mX2_isALight 1 2 := ⟨kiX2_isALight, GW_of (i := 619) (by decide +kernel) rfl, GW_of (i := 621) (by decide +kernel) rfl, GW_of (i := 11) (by decide +kernel) rfl, TX2, 10, rfl⟩
theorem ca_X2_39 : VI RX2 39 mX2_isFull 0 2 := ⟨kiX2_isFull, GW_of (i := 672) (by decide +kernel) rfl, GW_of (i := 664) (by decide +kernel) rfl, GW_of (i := 665) (by decide +kernel) rfl, TX2, 10, rfl⟩
theorem ca_X2_53 : VI RX2 53 mX2_firstLight 0 2 := ⟨kiX2_firstLight, GW_of (i := 615) (by decide +kernel) rfl, GW_of (i := 617) (by decide +kernel) rfl, GW_of (i := 10) (by decide +kernel) rfl, TX2, 10, rfl⟩
theorem ca_X2_56 : VI RX2 56 mX2_otherLight 1 2 := ⟨kiX2_otherLight, GW_of (i := 623) (by decide +kernel) rfl, GW_of (i := 625) (by decide +kernel) rfl, GW_of (i := 12) (by decide +kernel) rfl, TX2, 10, rfl⟩
theorem ca_X2_60 : VI RX2 60 mX2_touchOf 1 2 := ⟨kiX2_touchOf, GW_of (i := 627) (by decide +kernel) rfl, GW_of (i := 629) (by decide +kernel) rfl, GW_of (i := 13) (by decide +kernel) rfl, TX2, 10, rfl⟩
theorem ca_X2_63 : VI RX2 63 mX2_rightAt 1 2 := ⟨kiX2_rightAt, GW_of (i := 631) (by decide +kernel) rfl, GW_of (i := 633) (by decide +kernel) rfl, GW_of (i := 14) (by decide +kernel) rfl, TX2, 10, rfl⟩
theorem ca_X2_46 : VI RX2 46 mX2_judge 0 2 := ⟨kiX2_judge, GW_of (i := 725) (by decide +kernel) rfl, GW_of (i := 612) (by decide +kernel) rfl, GW_of (i := 613) (by decide +kernel) rfl, TX2, 10, rfl⟩
theorem ca_X2_66 : VI RX2 66 mX6_isFalse 1 6 := ⟨kiX6_isFalse, GW_of (i := 499) (by decide +kernel) rfl, GW_of (i := 500) (by decide +kernel) rfl, GW_of (i := 501) (by decide +kernel) rfl, TX6, 4, rfl⟩
theorem ca_X3_34 : VI RX3 34 mX3_take 4 3 := ⟨kiX3_take, GW_of (i := 550) (by decide +kernel) rfl, GW_of (i := 400) (by decide +kernel) rfl, GW_of (i := 401) (by decide +kernel) rfl, TX3, 6, rfl⟩
theorem ca_X4_73 : VI RX4 73 mX0_forget 0 0 := ⟨kiX0_forget, GW_of (i := 542) (by decide +kernel) rfl, GW_of (i := 543) (by decide +kernel) rfl, GW_of (i := 544) (by decide +kernel) rfl, TX0, 8, rfl⟩
theorem ca_X4_82 : VI RX4 82 mX3_empty 0 3 := ⟨kiX3_empty, GW_of (i := 546) (by decide +kernel) rfl, GW_of (i := 547) (by decide +kernel) rfl, GW_of (i := 548) (by decide +kernel) rfl, TX3, 6, rfl⟩
theorem ca_X4_32 : II RX4 32 mX0_init 3 := ⟨kiX0_init, GW_of (i := 777) (by decide +kernel) rfl, GW_of (i := 302) (by decide +kernel) rfl, rfl⟩
theorem ca_X4_35 : VI RX4 35 mX4_laySeeds 0 4 := ⟨kiX4_laySeeds, GW_of (i := 778) (by decide +kernel) rfl, GW_of (i := 780) (by decide +kernel) rfl, GW_of (i := 17) (by decide +kernel) rfl, TX4, 5, rfl⟩
theorem ca_X4_38 : VI RX4 38 mX4_boutAt 1 4 := ⟨kiX4_boutAt, GW_of (i := 512) (by decide +kernel) rfl, GW_of (i := 358) (by decide +kernel) rfl, GW_of (i := 359) (by decide +kernel) rfl, TX4, 5, rfl⟩
theorem ca_X4_42 : VI RX4 42 mX0_recount 0 0 := ⟨kiX0_recount, GW_of (i := 513) (by decide +kernel) rfl, GW_of (i := 484) (by decide +kernel) rfl, GW_of (i := 485) (by decide +kernel) rfl, TX0, 8, rfl⟩
theorem ca_X4_28 : VI RX4 28 mX4_hasNode 1 4 := ⟨kiX4_hasNode, GW_of (i := 518) (by decide +kernel) rfl, GW_of (i := 519) (by decide +kernel) rfl, GW_of (i := 520) (by decide +kernel) rfl, TX4, 5, rfl⟩
theorem ca_X4_45 : VI RX4 45 mX4_winnerAt 1 4 := ⟨kiX4_winnerAt, GW_of (i := 522) (by decide +kernel) rfl, GW_of (i := 523) (by decide +kernel) rfl, GW_of (i := 524) (by decide +kernel) rfl, TX4, 5, rfl⟩
theorem ca_X4_55 : VI RX4 55 mX4_winnerNow 2 4 := ⟨kiX4_winnerNow, GW_of (i := 526) (by decide +kernel) rfl, GW_of (i := 528) (by decide +kernel) rfl, GW_of (i := 8) (by decide +kernel) rfl, TX4, 5, rfl⟩
theorem ca_X4_59 : VI RX4 59 mX4_drop 2 4 := ⟨kiX4_drop, GW_of (i := 538) (by decide +kernel) rfl, GW_of (i := 540) (by decide +kernel) rfl, GW_of (i := 9) (by decide +kernel) rfl, TX4, 5, rfl⟩
theorem ca_X4_63 : VI RX4 63 mX0_winningFencer 0 0 := ⟨kiX0_winningFencer, GW_of (i := 530) (by decide +kernel) rfl, GW_of (i := 531) (by decide +kernel) rfl, GW_of (i := 532) (by decide +kernel) rfl, TX0, 8, rfl⟩
theorem ca_X5_21 : VI RX5 21 mX5_isAtGoal 0 5 := ⟨kiX5_isAtGoal, GW_of (i := 507) (by decide +kernel) rfl, GW_of (i := 390) (by decide +kernel) rfl, GW_of (i := 391) (by decide +kernel) rfl, TX5, 3, rfl⟩
theorem ca_X7_346 : II RX7 346 mX0_init 3 := ⟨kiX0_init, GW_of (i := 301) (by decide +kernel) rfl, GW_of (i := 302) (by decide +kernel) rfl, rfl⟩
theorem ca_X7_120 : VI RX7 120 mX0_canBeFenced 0 0 := ⟨kiX0_canBeFenced, GW_of (i := 381) (by decide +kernel) rfl, GW_of (i := 382) (by decide +kernel) rfl, GW_of (i := 383) (by decide +kernel) rfl, TX0, 8, rfl⟩
theorem ca_X7_176 : II RX7 176 mX2_init 3 := ⟨kiX2_init, GW_of (i := 565) (by decide +kernel) rfl, GW_of (i := 566) (by decide +kernel) rfl, rfl⟩
theorem ca_X7_144 : SI RX7 144 mX7_isSide 1 := ⟨kiX7_isSide, GW_of (i := 651) (by decide +kernel) rfl, GW_of (i := 652) (by decide +kernel) rfl⟩
theorem ca_X7_198 : SI RX7 198 mX7_isSideOrNone 1 := ⟨kiX7_isSideOrNone, GW_of (i := 648) (by decide +kernel) rfl, GW_of (i := 649) (by decide +kernel) rfl⟩
theorem ca_X7_231 : VI RX7 231 mX0_phraseAt 1 0 := ⟨kiX0_phraseAt, GW_of (i := 715) (by decide +kernel) rfl, GW_of (i := 488) (by decide +kernel) rfl, GW_of (i := 489) (by decide +kernel) rfl, TX0, 8, rfl⟩
theorem ca_X7_235 : VI RX7 235 mX0_appealsLeft 1 0 := ⟨kiX0_appealsLeft, GW_of (i := 716) (by decide +kernel) rfl, GW_of (i := 717) (by decide +kernel) rfl, GW_of (i := 718) (by decide +kernel) rfl, TX0, 8, rfl⟩
theorem ca_X7_223 : VI RX7 223 mX0_touchesLeft 1 0 := ⟨kiX0_touchesLeft, GW_of (i := 640) (by decide +kernel) rfl, GW_of (i := 492) (by decide +kernel) rfl, GW_of (i := 493) (by decide +kernel) rfl, TX0, 8, rfl⟩
theorem ca_X7_240 : VI RX7 240 mX2_tellRight 1 2 := ⟨kiX2_tellRight, GW_of (i := 721) (by decide +kernel) rfl, GW_of (i := 722) (by decide +kernel) rfl, GW_of (i := 723) (by decide +kernel) rfl, TX2, 10, rfl⟩
theorem ca_X7_243 : VI RX7 243 mX0_useAppeal 1 0 := ⟨kiX0_useAppeal, GW_of (i := 726) (by decide +kernel) rfl, GW_of (i := 727) (by decide +kernel) rfl, GW_of (i := 728) (by decide +kernel) rfl, TX0, 8, rfl⟩
theorem ca_X7_246 : VI RX7 246 mX0_recount 0 0 := ⟨kiX0_recount, GW_of (i := 483) (by decide +kernel) rfl, GW_of (i := 484) (by decide +kernel) rfl, GW_of (i := 485) (by decide +kernel) rfl, TX0, 8, rfl⟩
theorem ca_X7_219 : VI RX7 219 mX4_settle 1 4 := ⟨kiX4_settle, GW_of (i := 514) (by decide +kernel) rfl, GW_of (i := 515) (by decide +kernel) rfl, GW_of (i := 516) (by decide +kernel) rfl, TX4, 5, rfl⟩
theorem ca_X7_114 : VI RX7 114 mX7_boutAt 1 7 := ⟨kiX7_boutAt, GW_of (i := 353) (by decide +kernel) rfl, GW_of (i := 355) (by decide +kernel) rfl, GW_of (i := 4) (by decide +kernel) rfl, TX7, 10, rfl⟩
theorem ca_X7_87 : VI RX7 87 mX7_weaponAt 1 7 := ⟨kiX7_weaponAt, GW_of (i := 361) (by decide +kernel) rfl, GW_of (i := 363) (by decide +kernel) rfl, GW_of (i := 5) (by decide +kernel) rfl, TX7, 10, rfl⟩
theorem ca_X7_128 : VI RX7 128 mX6_isMarkedFor 1 6 := ⟨kiX6_isMarkedFor, GW_of (i := 394) (by decide +kernel) rfl, GW_of (i := 395) (by decide +kernel) rfl, GW_of (i := 396) (by decide +kernel) rfl, TX6, 4, rfl⟩
theorem ca_X7_137 : VI RX7 137 mX3_take 4 3 := ⟨kiX3_take, GW_of (i := 399) (by decide +kernel) rfl, GW_of (i := 400) (by decide +kernel) rfl, GW_of (i := 401) (by decide +kernel) rfl, TX3, 6, rfl⟩
theorem ca_X7_334 : VI RX7 334 mX4_boutAt 1 4 := ⟨kiX4_boutAt, GW_of (i := 357) (by decide +kernel) rfl, GW_of (i := 358) (by decide +kernel) rfl, GW_of (i := 359) (by decide +kernel) rfl, TX4, 5, rfl⟩
theorem ca_X7_155 : VI RX7 155 mX0_fencerAt 1 0 := ⟨kiX0_fencerAt, GW_of (i := 739) (by decide +kernel) rfl, GW_of (i := 535) (by decide +kernel) rfl, GW_of (i := 536) (by decide +kernel) rfl, TX0, 8, rfl⟩
theorem ca_X7_160 : VI RX7 160 mX3_weaponNumber 1 3 := ⟨kiX3_weaponNumber, GW_of (i := 741) (by decide +kernel) rfl, GW_of (i := 742) (by decide +kernel) rfl, GW_of (i := 743) (by decide +kernel) rfl, TX3, 6, rfl⟩
theorem ca_X7_163 : VI RX7 163 mX3_arm 2 3 := ⟨kiX3_arm, GW_of (i := 745) (by decide +kernel) rfl, GW_of (i := 746) (by decide +kernel) rfl, GW_of (i := 747) (by decide +kernel) rfl, TX3, 6, rfl⟩
theorem ca_X7_181 : VI RX7 181 mX7_isTooEarly 1 7 := ⟨kiX7_isTooEarly, GW_of (i := 654) (by decide +kernel) rfl, GW_of (i := 656) (by decide +kernel) rfl, GW_of (i := 15) (by decide +kernel) rfl, TX7, 10, rfl⟩
theorem ca_X7_186 : VI RX7 186 mX2_isFull 0 2 := ⟨kiX2_isFull, GW_of (i := 663) (by decide +kernel) rfl, GW_of (i := 664) (by decide +kernel) rfl, GW_of (i := 665) (by decide +kernel) rfl, TX2, 10, rfl⟩
theorem ca_X7_191 : VI RX7 191 mX2_hear 3 2 := ⟨kiX2_hear, GW_of (i := 668) (by decide +kernel) rfl, GW_of (i := 669) (by decide +kernel) rfl, GW_of (i := 670) (by decide +kernel) rfl, TX2, 10, rfl⟩
theorem ca_X7_70 : VI RX7 70 mX7_fencerAt 1 7 := ⟨kiX7_fencerAt, GW_of (i := 440) (by decide +kernel) rfl, GW_of (i := 442) (by decide +kernel) rfl, GW_of (i := 6) (by decide +kernel) rfl, TX7, 10, rfl⟩
theorem ca_X7_352 : VI RX7 352 mX1_clear 0 1 := ⟨kiX1_clear, GW_of (i := 786) (by decide +kernel) rfl, GW_of (i := 787) (by decide +kernel) rfl, GW_of (i := 788) (by decide +kernel) rfl, TX1, 5, rfl⟩
theorem ca_X7_349 : VI RX7 349 mX0_winningSide 0 0 := ⟨kiX0_winningSide, GW_of (i := 769) (by decide +kernel) rfl, GW_of (i := 386) (by decide +kernel) rfl, GW_of (i := 387) (by decide +kernel) rfl, TX0, 8, rfl⟩
theorem ca_X7_355 : VI RX7 355 mX7_countSide 2 7 := ⟨kiX7_countSide, GW_of (i := 790) (by decide +kernel) rfl, GW_of (i := 792) (by decide +kernel) rfl, GW_of (i := 19) (by decide +kernel) rfl, TX7, 10, rfl⟩
theorem ca_X7_257 : VI RX7 257 mX5_of 1 5 := ⟨kiX5_of, GW_of (i := 794) (by decide +kernel) rfl, GW_of (i := 795) (by decide +kernel) rfl, GW_of (i := 796) (by decide +kernel) rfl, TX5, 3, rfl⟩
theorem ca_X7_359 : VI RX7 359 mX1_add 3 1 := ⟨kiX1_add, GW_of (i := 798) (by decide +kernel) rfl, GW_of (i := 799) (by decide +kernel) rfl, GW_of (i := 800) (by decide +kernel) rfl, TX1, 5, rfl⟩
theorem ca_X7_339 : SI RX7 339 mX7_poolOf 2 := ⟨kiX7_poolOf, GW_of (i := 293) (by decide +kernel) rfl, GW_of (i := 294) (by decide +kernel) rfl⟩
theorem ca_X7_343 : VI RX7 343 mX7_addPoolBout 2 7 := ⟨kiX7_addPoolBout, GW_of (i := 296) (by decide +kernel) rfl, GW_of (i := 298) (by decide +kernel) rfl, GW_of (i := 3) (by decide +kernel) rfl, TX7, 10, rfl⟩
theorem ca_X7_56 : VI RX7 56 mX7_arePoolsDrawn 0 7 := ⟨kiX7_arePoolsDrawn, GW_of (i := 173) (by decide +kernel) rfl, GW_of (i := 175) (by decide +kernel) rfl, GW_of (i := 0) (by decide +kernel) rfl, TX7, 10, rfl⟩
theorem ca_X7_281 : VI RX7 281 mX7_drawPool 2 7 := ⟨kiX7_drawPool, GW_of (i := 289) (by decide +kernel) rfl, GW_of (i := 291) (by decide +kernel) rfl, GW_of (i := 2) (by decide +kernel) rfl, TX7, 10, rfl⟩
theorem ca_X7_301 : VI RX7 301 mX7_isAPoolBoutOpen 0 7 := ⟨kiX7_isAPoolBoutOpen, GW_of (i := 765) (by decide +kernel) rfl, GW_of (i := 767) (by decide +kernel) rfl, GW_of (i := 16) (by decide +kernel) rfl, TX7, 10, rfl⟩
theorem ca_X7_306 : VI RX7 306 mX4_isDrawn 0 4 := ⟨kiX4_isDrawn, GW_of (i := 479) (by decide +kernel) rfl, GW_of (i := 480) (by decide +kernel) rfl, GW_of (i := 481) (by decide +kernel) rfl, TX4, 5, rfl⟩
theorem ca_X7_311 : VI RX7 311 mX3_empty 0 3 := ⟨kiX3_empty, GW_of (i := 772) (by decide +kernel) rfl, GW_of (i := 547) (by decide +kernel) rfl, GW_of (i := 548) (by decide +kernel) rfl, TX3, 6, rfl⟩
theorem ca_X7_314 : VI RX7 314 mX4_lay 1 4 := ⟨kiX4_lay, GW_of (i := 773) (by decide +kernel) rfl, GW_of (i := 774) (by decide +kernel) rfl, GW_of (i := 775) (by decide +kernel) rfl, TX4, 5, rfl⟩
theorem ca_X7_287 : VI RX7 287 mX7_countPools 0 7 := ⟨kiX7_countPools, GW_of (i := 782) (by decide +kernel) rfl, GW_of (i := 784) (by decide +kernel) rfl, GW_of (i := 18) (by decide +kernel) rfl, TX7, 10, rfl⟩
theorem ca_X7_298 : VI RX7 298 mX7_fencerInPlace 1 7 := ⟨kiX7_fencerInPlace, GW_of (i := 802) (by decide +kernel) rfl, GW_of (i := 804) (by decide +kernel) rfl, GW_of (i := 20) (by decide +kernel) rfl, TX7, 10, rfl⟩
theorem ca_X7_317 : VI RX7 317 mX4_seat 2 4 := ⟨kiX4_seat, GW_of (i := 821) (by decide +kernel) rfl, GW_of (i := 822) (by decide +kernel) rfl, GW_of (i := 823) (by decide +kernel) rfl, TX4, 5, rfl⟩
theorem ca_X7_338 : VI RX7 338 mX4_recount 0 4 := ⟨kiX4_recount, GW_of (i := 508) (by decide +kernel) rfl, GW_of (i := 509) (by decide +kernel) rfl, GW_of (i := 510) (by decide +kernel) rfl, TX4, 5, rfl⟩
theorem ca_X7_67 : II RX7 67 mX1_init 1 := ⟨kiX1_init, GW_of (i := 247) (by decide +kernel) rfl, GW_of (i := 248) (by decide +kernel) rfl, rfl⟩
theorem ca_X7_363 : VI RX7 363 mX7_fencersAhead 1 7 := ⟨kiX7_fencersAhead, GW_of (i := 806) (by decide +kernel) rfl, GW_of (i := 808) (by decide +kernel) rfl, GW_of (i := 21) (by decide +kernel) rfl, TX7, 10, rfl⟩
theorem ca_X7_367 : VI RX7 367 mX1_isAheadOf 1 1 := ⟨kiX1_isAheadOf, GW_of (i := 810) (by decide +kernel) rfl, GW_of (i := 811) (by decide +kernel) rfl, GW_of (i := 812) (by decide +kernel) rfl, TX1, 5, rfl⟩
theorem ca_X7_205 : VI RX7 205 mX2_judge 0 2 := ⟨kiX2_judge, GW_of (i := 611) (by decide +kernel) rfl, GW_of (i := 612) (by decide +kernel) rfl, GW_of (i := 613) (by decide +kernel) rfl, TX2, 10, rfl⟩
theorem ca_X7_212 : VI RX7 212 mX0_keep 1 0 := ⟨kiX0_keep, GW_of (i := 635) (by decide +kernel) rfl, GW_of (i := 636) (by decide +kernel) rfl, GW_of (i := 637) (by decide +kernel) rfl, TX0, 8, rfl⟩
theorem ca_X7_293 : VI RX7 293 mX1_difference 0 1 := ⟨kiX1_difference, GW_of (i := 904) (by decide +kernel) rfl, GW_of (i := 818) (by decide +kernel) rfl, GW_of (i := 819) (by decide +kernel) rfl, TX1, 5, rfl⟩
theorem ca_X7_29 : IN RX7 29 mX3_init 0 "PisteLine" := ⟨kiX3_init, EW_of (i := 63) (by decide +kernel) rfl, GW_of (i := 64) (by decide +kernel) rfl, rfl⟩
theorem ca_X7_36 : IN RX7 36 mX4_init 0 "PisteLine" := ⟨kiX4_init, EW_of (i := 95) (by decide +kernel) rfl, GW_of (i := 96) (by decide +kernel) rfl, rfl⟩
theorem ca_X7_43 : IN RX7 43 mX5_init 0 "PisteLine" := ⟨kiX5_init, EW_of (i := 121) (by decide +kernel) rfl, GW_of (i := 122) (by decide +kernel) rfl, rfl⟩
theorem ca_X7_331 : VI RX7 331 mX2_latestTime 0 2 := ⟨kiX2_latestTime, GW_of (i := 658) (by decide +kernel) rfl, GW_of (i := 659) (by decide +kernel) rfl, GW_of (i := 660) (by decide +kernel) rfl, TX2, 10, rfl⟩
theorem ca_X7_323 : VI RX7 323 mX4_hasNode 1 4 := ⟨kiX4_hasNode, GW_of (i := 886) (by decide +kernel) rfl, GW_of (i := 519) (by decide +kernel) rfl, GW_of (i := 520) (by decide +kernel) rfl, TX4, 5, rfl⟩
theorem ca_X7_272 : VI RX7 272 mX4_winnerAt 1 4 := ⟨kiX4_winnerAt, GW_of (i := 876) (by decide +kernel) rfl, GW_of (i := 523) (by decide +kernel) rfl, GW_of (i := 524) (by decide +kernel) rfl, TX4, 5, rfl⟩
theorem ca_X7_260 : VI RX7 260 mX0_countAnew 1 0 := ⟨kiX0_countAnew, GW_of (i := 858) (by decide +kernel) rfl, GW_of (i := 859) (by decide +kernel) rfl, GW_of (i := 860) (by decide +kernel) rfl, TX0, 8, rfl⟩
theorem ca_X7_107 : VI RX7 107 mX7_fail 1 7 := ⟨kiX7_fail, GW_of (i := 475) (by decide +kernel) rfl, GW_of (i := 477) (by decide +kernel) rfl, GW_of (i := 7) (by decide +kernel) rfl, TX7, 10, rfl⟩
theorem ca_X7_84 : II RX7 84 mX6_init 2 := ⟨kiX6_init, GW_of (i := 447) (by decide +kernel) rfl, GW_of (i := 448) (by decide +kernel) rfl, rfl⟩
theorem ca_X7_269 : VI RX7 269 mX0_winningFencer 0 0 := ⟨kiX0_winningFencer, GW_of (i := 875) (by decide +kernel) rfl, GW_of (i := 531) (by decide +kernel) rfl, GW_of (i := 532) (by decide +kernel) rfl, TX0, 8, rfl⟩
theorem ob_X0_3 : Cond.methodLink RX0 3 Lib.objectInit ∈ GW := GW_of (i := 304) (by decide +kernel) rfl
theorem ob_X1_1 : Cond.methodLink RX1 1 Lib.objectInit ∈ GW := GW_of (i := 250) (by decide +kernel) rfl
theorem ob_X2_3 : Cond.methodLink RX2 3 Lib.objectInit ∈ GW := GW_of (i := 568) (by decide +kernel) rfl
theorem ob_X3_3 : Cond.methodLink RX3 3 Lib.objectInit ∈ GW := GW_of (i := 66) (by decide +kernel) rfl
theorem ob_X4_3 : Cond.methodLink RX4 3 Lib.objectInit ∈ GW := GW_of (i := 98) (by decide +kernel) rfl
theorem ob_X5_3 : Cond.methodLink RX5 3 Lib.objectInit ∈ GW := GW_of (i := 124) (by decide +kernel) rfl
theorem ob_X6_3 : Cond.methodLink RX6 3 Lib.objectInit ∈ GW := GW_of (i := 450) (by decide +kernel) rfl
theorem ob_X7_3 : Cond.methodLink RX7 3 Lib.objectInit ∈ GW := GW_of (i := 52) (by decide +kernel) rfl
theorem ob_i : Cond.instanceMethod Lib.objectInit ∈ GW := GW_of (i := 53) (by decide +kernel) rfl
theorem ob_c : Cond.code Lib.objectInit ⟨#[0xb1]⟩ 1 none ∈ GW := GW_of (i := 54) (by decide +kernel) rfl
theorem th_0_64 : (vx_atS RX7 64 (exN 0) exS).all (fun w => goodWord w || mvWord w) = true ∧ (vx_atS RX7 64 (exN 0) exS).all (fun w => decide (w ∈ lw_tbl)) = true := ⟨by decide +kernel, by decide +kernel⟩
theorem ti_60_153_64 : TI 60 153 64 0 := ⟨⟨_, List.mem_of_getElem? (i := 10) rfl⟩, cl_X7_60, GW_of (i := 30) (by decide +kernel) rfl, by decide +kernel, th_0_64.1, fun w hw => of_decide_eq_true (List.all_eq_true.mp th_0_64.2 w hw)⟩
theorem ti_60_172_64 : TI 60 172 64 0 := ⟨⟨_, List.mem_of_getElem? (i := 12) rfl⟩, cl_X7_60, GW_of (i := 30) (by decide +kernel) rfl, by decide +kernel, th_0_64.1, fun w hw => of_decide_eq_true (List.all_eq_true.mp th_0_64.2 w hw)⟩
theorem th_2_78 : (vx_atS RX7 78 (exN 2) exS).all (fun w => goodWord w || mvWord w) = true ∧ (vx_atS RX7 78 (exN 2) exS).all (fun w => decide (w ∈ lw_tbl)) = true := ⟨by decide +kernel, by decide +kernel⟩
theorem ti_74_179_78 : TI 74 179 78 2 := ⟨⟨_, List.mem_of_getElem? (i := 13) rfl⟩, cl_X7_74, GW_of (i := 34) (by decide +kernel) rfl, by decide +kernel, th_2_78.1, fun w hw => of_decide_eq_true (List.all_eq_true.mp th_2_78.2 w hw)⟩
theorem th_1_97 : (vx_atS RX7 97 (exN 1) exS).all (fun w => goodWord w || mvWord w) = true ∧ (vx_atS RX7 97 (exN 1) exS).all (fun w => decide (w ∈ lw_tbl)) = true := ⟨by decide +kernel, by decide +kernel⟩
theorem ti_93_227_97 : TI 93 227 97 1 := ⟨⟨_, List.mem_of_getElem? (i := 18) rfl⟩, cl_X7_93, GW_of (i := 32) (by decide +kernel) rfl, by decide +kernel, th_1_97.1, fun w hw => of_decide_eq_true (List.all_eq_true.mp th_1_97.2 w hw)⟩
theorem ti_60_229_64 : TI 60 229 64 0 := ⟨⟨_, List.mem_of_getElem? (i := 19) rfl⟩, cl_X7_60, GW_of (i := 30) (by decide +kernel) rfl, by decide +kernel, th_0_64.1, fun w hw => of_decide_eq_true (List.all_eq_true.mp th_0_64.2 w hw)⟩
theorem ti_60_238_64 : TI 60 238 64 0 := ⟨⟨_, List.mem_of_getElem? (i := 20) rfl⟩, cl_X7_60, GW_of (i := 30) (by decide +kernel) rfl, by decide +kernel, th_0_64.1, fun w hw => of_decide_eq_true (List.all_eq_true.mp th_0_64.2 w hw)⟩
theorem ti_74_252_78 : TI 74 252 78 2 := ⟨⟨_, List.mem_of_getElem? (i := 21) rfl⟩, cl_X7_74, GW_of (i := 34) (by decide +kernel) rfl, by decide +kernel, th_2_78.1, fun w hw => of_decide_eq_true (List.all_eq_true.mp th_2_78.2 w hw)⟩
theorem ti_74_118_78 : TI 74 118 78 2 := ⟨⟨_, List.mem_of_getElem? (i := 6) rfl⟩, cl_X7_74, GW_of (i := 34) (by decide +kernel) rfl, by decide +kernel, th_2_78.1, fun w hw => of_decide_eq_true (List.all_eq_true.mp th_2_78.2 w hw)⟩
theorem ti_60_123_64 : TI 60 123 64 0 := ⟨⟨_, List.mem_of_getElem? (i := 7) rfl⟩, cl_X7_60, GW_of (i := 30) (by decide +kernel) rfl, by decide +kernel, th_0_64.1, fun w hw => of_decide_eq_true (List.all_eq_true.mp th_0_64.2 w hw)⟩
theorem ti_60_135_64 : TI 60 135 64 0 := ⟨⟨_, List.mem_of_getElem? (i := 8) rfl⟩, cl_X7_60, GW_of (i := 30) (by decide +kernel) rfl, by decide +kernel, th_0_64.1, fun w hw => of_decide_eq_true (List.all_eq_true.mp th_0_64.2 w hw)⟩
theorem ti_74_147_78 : TI 74 147 78 2 := ⟨⟨_, List.mem_of_getElem? (i := 9) rfl⟩, cl_X7_74, GW_of (i := 34) (by decide +kernel) rfl, by decide +kernel, th_2_78.1, fun w hw => of_decide_eq_true (List.all_eq_true.mp th_2_78.2 w hw)⟩
theorem ti_60_158_64 : TI 60 158 64 0 := ⟨⟨_, List.mem_of_getElem? (i := 11) rfl⟩, cl_X7_60, GW_of (i := 30) (by decide +kernel) rfl, by decide +kernel, th_0_64.1, fun w hw => of_decide_eq_true (List.all_eq_true.mp th_0_64.2 w hw)⟩
theorem ti_93_184_97 : TI 93 184 97 1 := ⟨⟨_, List.mem_of_getElem? (i := 14) rfl⟩, cl_X7_93, GW_of (i := 32) (by decide +kernel) rfl, by decide +kernel, th_1_97.1, fun w hw => of_decide_eq_true (List.all_eq_true.mp th_1_97.2 w hw)⟩
theorem ti_60_189_64 : TI 60 189 64 0 := ⟨⟨_, List.mem_of_getElem? (i := 15) rfl⟩, cl_X7_60, GW_of (i := 30) (by decide +kernel) rfl, by decide +kernel, th_0_64.1, fun w hw => of_decide_eq_true (List.all_eq_true.mp th_0_64.2 w hw)⟩
theorem ti_93_277_97 : TI 93 277 97 1 := ⟨⟨_, List.mem_of_getElem? (i := 24) rfl⟩, cl_X7_93, GW_of (i := 32) (by decide +kernel) rfl, by decide +kernel, th_1_97.1, fun w hw => of_decide_eq_true (List.all_eq_true.mp th_1_97.2 w hw)⟩
theorem ti_60_279_64 : TI 60 279 64 0 := ⟨⟨_, List.mem_of_getElem? (i := 25) rfl⟩, cl_X7_60, GW_of (i := 30) (by decide +kernel) rfl, by decide +kernel, th_0_64.1, fun w hw => of_decide_eq_true (List.all_eq_true.mp th_0_64.2 w hw)⟩
theorem ti_60_304_64 : TI 60 304 64 0 := ⟨⟨_, List.mem_of_getElem? (i := 27) rfl⟩, cl_X7_60, GW_of (i := 30) (by decide +kernel) rfl, by decide +kernel, th_0_64.1, fun w hw => of_decide_eq_true (List.all_eq_true.mp th_0_64.2 w hw)⟩
theorem ti_60_309_64 : TI 60 309 64 0 := ⟨⟨_, List.mem_of_getElem? (i := 28) rfl⟩, cl_X7_60, GW_of (i := 30) (by decide +kernel) rfl, by decide +kernel, th_0_64.1, fun w hw => of_decide_eq_true (List.all_eq_true.mp th_0_64.2 w hw)⟩
theorem ti_60_62_64 : TI 60 62 64 0 := ⟨⟨_, List.mem_of_getElem? (i := 0) rfl⟩, cl_X7_60, GW_of (i := 30) (by decide +kernel) rfl, by decide +kernel, th_0_64.1, fun w hw => of_decide_eq_true (List.all_eq_true.mp th_0_64.2 w hw)⟩
theorem ti_60_203_64 : TI 60 203 64 0 := ⟨⟨_, List.mem_of_getElem? (i := 17) rfl⟩, cl_X7_60, GW_of (i := 30) (by decide +kernel) rfl, by decide +kernel, th_0_64.1, fun w hw => of_decide_eq_true (List.all_eq_true.mp th_0_64.2 w hw)⟩
theorem ti_74_76_78 : TI 74 76 78 2 := ⟨⟨_, List.mem_of_getElem? (i := 1) rfl⟩, cl_X7_74, GW_of (i := 34) (by decide +kernel) rfl, by decide +kernel, th_2_78.1, fun w hw => of_decide_eq_true (List.all_eq_true.mp th_2_78.2 w hw)⟩
theorem ti_74_91_78 : TI 74 91 78 2 := ⟨⟨_, List.mem_of_getElem? (i := 3) rfl⟩, cl_X7_74, GW_of (i := 34) (by decide +kernel) rfl, by decide +kernel, th_2_78.1, fun w hw => of_decide_eq_true (List.all_eq_true.mp th_2_78.2 w hw)⟩
theorem ti_74_326_78 : TI 74 326 78 2 := ⟨⟨_, List.mem_of_getElem? (i := 29) rfl⟩, cl_X7_74, GW_of (i := 34) (by decide +kernel) rfl, by decide +kernel, th_2_78.1, fun w hw => of_decide_eq_true (List.all_eq_true.mp th_2_78.2 w hw)⟩
theorem ti_74_264_78 : TI 74 264 78 2 := ⟨⟨_, List.mem_of_getElem? (i := 22) rfl⟩, cl_X7_74, GW_of (i := 34) (by decide +kernel) rfl, by decide +kernel, th_2_78.1, fun w hw => of_decide_eq_true (List.all_eq_true.mp th_2_78.2 w hw)⟩
theorem ti_74_296_78 : TI 74 296 78 2 := ⟨⟨_, List.mem_of_getElem? (i := 26) rfl⟩, cl_X7_74, GW_of (i := 34) (by decide +kernel) rfl, by decide +kernel, th_2_78.1, fun w hw => of_decide_eq_true (List.all_eq_true.mp th_2_78.2 w hw)⟩
theorem ti_93_201_97 : TI 93 201 97 1 := ⟨⟨_, List.mem_of_getElem? (i := 16) rfl⟩, cl_X7_93, GW_of (i := 32) (by decide +kernel) rfl, by decide +kernel, th_1_97.1, fun w hw => of_decide_eq_true (List.all_eq_true.mp th_1_97.2 w hw)⟩
theorem ti_93_95_97 : TI 93 95 97 1 := ⟨⟨_, List.mem_of_getElem? (i := 4) rfl⟩, cl_X7_93, GW_of (i := 32) (by decide +kernel) rfl, by decide +kernel, th_1_97.1, fun w hw => of_decide_eq_true (List.all_eq_true.mp th_1_97.2 w hw)⟩
theorem ti_60_105_64 : TI 60 105 64 0 := ⟨⟨_, List.mem_of_getElem? (i := 5) rfl⟩, cl_X7_60, GW_of (i := 30) (by decide +kernel) rfl, by decide +kernel, th_0_64.1, fun w hw => of_decide_eq_true (List.all_eq_true.mp th_0_64.2 w hw)⟩
theorem ti_74_275_78 : TI 74 275 78 2 := ⟨⟨_, List.mem_of_getElem? (i := 23) rfl⟩, cl_X7_74, GW_of (i := 34) (by decide +kernel) rfl, by decide +kernel, th_2_78.1, fun w hw => of_decide_eq_true (List.all_eq_true.mp th_2_78.2 w hw)⟩
theorem ti_60_82_64 : TI 60 82 64 0 := ⟨⟨_, List.mem_of_getElem? (i := 2) rfl⟩, cl_X7_60, GW_of (i := 30) (by decide +kernel) rfl, by decide +kernel, th_0_64.1, fun w hw => of_decide_eq_true (List.all_eq_true.mp th_0_64.2 w hw)⟩
end
section
/-! THE LAW IN THE TABLES -/
def mL_acts : MI := (yL_acts, cL_acts, 18, (some FieldType.boolean), [], { frames := 9, cells := 60, slots := 420, locals := 250 })
set_option maxRecDepth 100000 in
theorem kiL_acts : KI mL_acts 13 := ⟨rfl, GW_of (i := 411) (by rfl) rfl, GW_of (i := 22) (by decide +kernel) rfl, ⟨by decide +kernel, by decide +kernel⟩, by decide +kernel⟩
def mL_allez : MI := (yL_allez, cL_allez, 2, (some FieldType.int), [(0, 4, 5, 113)], { frames := 7, cells := 4, slots := 34, locals := 113 })
def mL_appealed : MI := (yL_appealed, cL_appealed, 4, (some FieldType.int), [(0, 6, 7, 113)], { frames := 7, cells := 1, slots := 6, locals := 142 })
def mL_armed : MI := (yL_armed, cL_armed, 7, (some FieldType.int), [], { frames := 7, cells := 2, slots := 12, locals := 165 })
theorem kiL_armed : KI mL_armed 5 := ⟨rfl, GW_of (i := 435) (by decide +kernel) rfl, GW_of (i := 22) (by decide +kernel) rfl, ⟨by decide +kernel, by decide +kernel⟩, by decide +kernel⟩
def mL_begun : MI := (yL_begun, cL_begun, 5, (some FieldType.int), [(0, 7, 8, 111), (0, 7, 13, 113)], { frames := 7, cells := 1, slots := 6, locals := 116 })
def mL_bits : MI := (yL_bits, cL_bits, 5, (some FieldType.int), [], { frames := 0, cells := 0, slots := 0, locals := 0 })
theorem kiL_bits : KI mL_bits 5 := ⟨rfl, GW_of (i := 423) (by decide +kernel) rfl, GW_of (i := 22) (by decide +kernel) rfl, ⟨by decide +kernel, by decide +kernel⟩, by decide +kernel⟩
def mL_changed : MI := (yL_changed, cL_changed, 4, (some FieldType.int), [(0, 6, 7, 113)], { frames := 7, cells := 1, slots := 6, locals := 115 })
def mL_drawn : MI := (yL_drawn, cL_drawn, 2, (some FieldType.int), [(0, 4, 5, 113)], { frames := 7, cells := 45, slots := 345, locals := 137 })
def mL_fencer : MI := (yL_fencer, cL_fencer, 3, (some FieldType.int), [], { frames := 0, cells := 0, slots := 0, locals := 0 })
theorem kiL_fencer : KI mL_fencer 3 := ⟨rfl, GW_of (i := 429) (by decide +kernel) rfl, GW_of (i := 22) (by decide +kernel) rfl, ⟨by decide +kernel, by decide +kernel⟩, by decide +kernel⟩
def mL_follow : MI := (yL_follow, cL_follow, 10, none, [], { frames := 4, cells := 1, slots := 8, locals := 134 })
set_option maxRecDepth 100000 in
theorem kiL_follow : KI mL_follow 6 := ⟨rfl, GW_of (i := 699) (by rfl) rfl, GW_of (i := 22) (by decide +kernel) rfl, ⟨by decide +kernel, by decide +kernel⟩, by decide +kernel⟩
def mL_from : MI := (yL_from, cL_from, 4, (some FieldType.int), [], { frames := 0, cells := 0, slots := 0, locals := 0 })
theorem kiL_from : KI mL_from 3 := ⟨rfl, GW_of (i := 406) (by decide +kernel) rfl, GW_of (i := 22) (by decide +kernel) rfl, ⟨by decide +kernel, by decide +kernel⟩, by decide +kernel⟩
def mL_halted : MI := (yL_halted, cL_halted, 2, (some FieldType.int), [(0, 4, 5, 113)], { frames := 7, cells := 1, slots := 6, locals := 138 })
def mL_heard : MI := (yL_heard, cL_heard, 4, (some FieldType.int), [(0, 36, 37, 113)], { frames := 7, cells := 1, slots := 6, locals := 114 })
def mL_holds : MI := (yL_holds, cL_holds, 14, (some FieldType.boolean), [], { frames := 10, cells := 46000, slots := 290000, locals := 295 })
set_option maxRecDepth 100000 in
theorem kiL_holds : KI mL_holds 1 := ⟨rfl, GW_of (i := 46) (by rfl) rfl, GW_of (i := 22) (by decide +kernel) rfl, ⟨by decide +kernel, by decide +kernel⟩, by decide +kernel⟩
def mL_isAhead : MI := (yL_isAhead, cL_isAhead, 11, (some FieldType.boolean), [], { frames := 4, cells := 0, slots := 0, locals := 140 })
set_option maxRecDepth 100000 in
theorem kiL_isAhead : KI mL_isAhead 6 := ⟨rfl, GW_of (i := 754) (by rfl) rfl, GW_of (i := 22) (by decide +kernel) rfl, ⟨by decide +kernel, by decide +kernel⟩, by decide +kernel⟩
def mL_isAppealed : MI := (yL_isAppealed, cL_isAppealed, 15, (some FieldType.boolean), [], { frames := 8, cells := 3, slots := 24, locals := 173 })
set_option maxRecDepth 100000 in
theorem kiL_isAppealed : KI mL_isAppealed 8 := ⟨rfl, GW_of (i := 705) (by rfl) rfl, GW_of (i := 22) (by decide +kernel) rfl, ⟨by decide +kernel, by decide +kernel⟩, by decide +kernel⟩
def mL_isBegun : MI := (yL_isBegun, cL_isBegun, 13, (some FieldType.boolean), [], { frames := 8, cells := 6, slots := 36, locals := 199 })
set_option maxRecDepth 100000 in
theorem kiL_isBegun : KI mL_isBegun 7 := ⟨rfl, GW_of (i := 414) (by rfl) rfl, GW_of (i := 22) (by decide +kernel) rfl, ⟨by decide +kernel, by decide +kernel⟩, by decide +kernel⟩
def mL_isFenced : MI := (yL_isFenced, cL_isFenced, 26, (some FieldType.boolean), [], { frames := 8, cells := 24, slots := 160, locals := 197 })
set_option maxRecDepth 100000 in
theorem kiL_isFenced : KI mL_isFenced 12 := ⟨rfl, GW_of (i := 553) (by rfl) rfl, GW_of (i := 22) (by decide +kernel) rfl, ⟨by decide +kernel, by decide +kernel⟩, by decide +kernel⟩
def mL_isHeld : MI := (yL_isHeld, cL_isHeld, 2, (some FieldType.boolean), [(0, 4, 5, 111), (0, 4, 8, 234), (0, 4, 11, 113)], { frames := 11, cells := 46000, slots := 290000, locals := 336 })
def mL_isTold : MI := (yL_isTold, cL_isTold, 14, (some FieldType.boolean), [], { frames := 7, cells := 400, slots := 2400, locals := 214 })
set_option maxRecDepth 100000 in
theorem kiL_isTold : KI mL_isTold 8 := ⟨rfl, GW_of (i := 827) (by rfl) rfl, GW_of (i := 22) (by decide +kernel) rfl, ⟨by decide +kernel, by decide +kernel⟩, by decide +kernel⟩
def mL_judge : MI := (yL_judge, cL_judge, 12, (some FieldType.int), [], { frames := 0, cells := 0, slots := 0, locals := 0 })
set_option maxRecDepth 100000 in
theorem kiL_judge : KI mL_judge 4 := ⟨rfl, GW_of (i := 689) (by rfl) rfl, GW_of (i := 22) (by decide +kernel) rfl, ⟨by decide +kernel, by decide +kernel⟩, by decide +kernel⟩
def mL_law : MI := (yL_law, cL_law, 1, ret, [], room_1)
def mL_number : MI := (yL_number, cL_number, 1, (some FieldType.int), [], { frames := 0, cells := 0, slots := 0, locals := 0 })
theorem kiL_number : KI mL_number 1 := ⟨rfl, GW_of (i := 432) (by decide +kernel) rfl, GW_of (i := 22) (by decide +kernel) rfl, ⟨by decide +kernel, by decide +kernel⟩, by decide +kernel⟩
def mL_ranked : MI := (yL_ranked, cL_ranked, 9, (some FieldType.int), [], { frames := 5, cells := 0, slots := 0, locals := 178 })
theorem kiL_ranked : KI mL_ranked 5 := ⟨rfl, GW_of (i := 751) (by decide +kernel) rfl, GW_of (i := 22) (by decide +kernel) rfl, ⟨by decide +kernel, by decide +kernel⟩, by decide +kernel⟩
def mL_strikes : MI := (yL_strikes, cL_strikes, 3, (some FieldType.boolean), [], { frames := 0, cells := 0, slots := 0, locals := 0 })
theorem kiL_strikes : KI mL_strikes 3 := ⟨rfl, GW_of (i := 426) (by decide +kernel) rfl, GW_of (i := 22) (by decide +kernel) rfl, ⟨by decide +kernel, by decide +kernel⟩, by decide +kernel⟩
def mL_sum : MI := (yL_sum, cL_sum, 12, (some FieldType.int), [], { frames := 3, cells := 0, slots := 0, locals := 101 })
set_option maxRecDepth 100000 in
theorem kiL_sum : KI mL_sum 6 := ⟨rfl, GW_of (i := 757) (by rfl) rfl, GW_of (i := 22) (by decide +kernel) rfl, ⟨by decide +kernel, by decide +kernel⟩, by decide +kernel⟩
def mL_tested : MI := (yL_tested, cL_tested, 5, (some FieldType.int), [(0, 15, 16, 113)], { frames := 7, cells := 1, slots := 6, locals := 165 })
def mL_told : MI := (yL_told, cL_told, 10, (some FieldType.int), [], { frames := 2, cells := 0, slots := 0, locals := 64 })
set_option maxRecDepth 100000 in
theorem kiL_told : KI mL_told 4 := ⟨rfl, GW_of (i := 417) (by rfl) rfl, GW_of (i := 22) (by decide +kernel) rfl, ⟨by decide +kernel, by decide +kernel⟩, by decide +kernel⟩
def mL_touches : MI := (yL_touches, cL_touches, 5, (some FieldType.int), [], { frames := 1, cells := 0, slots := 0, locals := 32 })
theorem kiL_touches : KI mL_touches 4 := ⟨rfl, GW_of (i := 420) (by decide +kernel) rfl, GW_of (i := 22) (by decide +kernel) rfl, ⟨by decide +kernel, by decide +kernel⟩, by decide +kernel⟩
def mL_winner : MI := (yL_winner, cL_winner, 6, (some FieldType.int), [], { frames := 3, cells := 0, slots := 0, locals := 101 })
theorem kiL_winner : KI mL_winner 5 := ⟨rfl, GW_of (i := 702) (by decide +kernel) rfl, GW_of (i := 22) (by decide +kernel) rfl, ⟨by decide +kernel, by decide +kernel⟩, by decide +kernel⟩
theorem ca_L_196 : SI RL 196 mL_isBegun 7 := ⟨kiL_isBegun, GW_of (i := 412) (by decide +kernel) rfl, GW_of (i := 413) (by decide +kernel) rfl⟩
theorem ca_L_200 : SI RL 200 mL_isFenced 12 := ⟨kiL_isFenced, GW_of (i := 551) (by decide +kernel) rfl, GW_of (i := 552) (by decide +kernel) rfl⟩
theorem ca_L_23 : SI RL 23 mL_told 4 := ⟨kiL_told, GW_of (i := 415) (by decide +kernel) rfl, GW_of (i := 416) (by decide +kernel) rfl⟩
theorem ca_L_204 : SI RL 204 mL_isAppealed 8 := ⟨kiL_isAppealed, GW_of (i := 703) (by decide +kernel) rfl, GW_of (i := 704) (by decide +kernel) rfl⟩
theorem ca_L_187 : SI RL 187 mL_follow 6 := ⟨kiL_follow, GW_of (i := 697) (by decide +kernel) rfl, GW_of (i := 698) (by decide +kernel) rfl⟩
theorem ca_L_166 : WI RL 166 mL_tested 4 := ⟨by decide, GW_of (i := 686) (by decide +kernel) rfl, GW_of (i := 22) (by decide +kernel) rfl, ⟨by decide +kernel, by decide +kernel⟩, GW_of (i := 684) (by decide +kernel) rfl, GW_of (i := 685) (by decide +kernel) rfl, by decide +kernel⟩
theorem ca_L_27 : SI RL 27 mL_fencer 3 := ⟨kiL_fencer, GW_of (i := 427) (by decide +kernel) rfl, GW_of (i := 428) (by decide +kernel) rfl⟩
theorem ca_L_208 : WI RL 208 mL_changed 3 := ⟨by decide, GW_of (i := 733) (by decide +kernel) rfl, GW_of (i := 22) (by decide +kernel) rfl, ⟨by decide +kernel, by decide +kernel⟩, GW_of (i := 731) (by decide +kernel) rfl, GW_of (i := 732) (by decide +kernel) rfl, by decide +kernel⟩
theorem ca_L_104 : SI RL 104 mL_ranked 5 := ⟨kiL_ranked, GW_of (i := 749) (by decide +kernel) rfl, GW_of (i := 750) (by decide +kernel) rfl⟩
theorem ca_L_211 : WI RL 211 mL_drawn 1 := ⟨by decide, GW_of (i := 760) (by decide +kernel) rfl, GW_of (i := 22) (by decide +kernel) rfl, ⟨by decide +kernel, by decide +kernel⟩, GW_of (i := 758) (by decide +kernel) rfl, GW_of (i := 759) (by decide +kernel) rfl, by decide +kernel⟩
theorem ca_L_122 : VI RL 122 mX7_allez 0 7 := ⟨kiX7_allez, GW_of (i := 557) (by decide +kernel) rfl, GW_of (i := 558) (by decide +kernel) rfl, GW_of (i := 559) (by decide +kernel) rfl, TX7, 10, rfl⟩
theorem ca_L_135 : VI RL 135 mX7_appeal 2 7 := ⟨kiX7_appeal, GW_of (i := 709) (by decide +kernel) rfl, GW_of (i := 710) (by decide +kernel) rfl, GW_of (i := 711) (by decide +kernel) rfl, TX7, 10, rfl⟩
theorem ca_L_141 : VI RL 141 mX7_weapon 1 7 := ⟨kiX7_weapon, GW_of (i := 436) (by decide +kernel) rfl, GW_of (i := 437) (by decide +kernel) rfl, GW_of (i := 438) (by decide +kernel) rfl, TX7, 10, rfl⟩
theorem ca_L_115 : VI RL 115 mX7_test 3 7 := ⟨kiX7_test, GW_of (i := 468) (by decide +kernel) rfl, GW_of (i := 469) (by decide +kernel) rfl, GW_of (i := 470) (by decide +kernel) rfl, TX7, 10, rfl⟩
theorem ca_L_107 : VI RL 107 mX7_begin 3 7 := ⟨kiX7_begin, GW_of (i := 349) (by decide +kernel) rfl, GW_of (i := 350) (by decide +kernel) rfl, GW_of (i := 351) (by decide +kernel) rfl, TX7, 10, rfl⟩
theorem ca_L_119 : VI RL 119 mX7_change 2 7 := ⟨kiX7_change, GW_of (i := 734) (by decide +kernel) rfl, GW_of (i := 735) (by decide +kernel) rfl, GW_of (i := 736) (by decide +kernel) rfl, TX7, 10, rfl⟩
theorem ca_L_138 : VI RL 138 mX7_drawTableau 0 7 := ⟨kiX7_drawTableau, GW_of (i := 761) (by decide +kernel) rfl, GW_of (i := 762) (by decide +kernel) rfl, GW_of (i := 763) (by decide +kernel) rfl, TX7, 10, rfl⟩
theorem ca_L_31 : SI RL 31 mL_winner 5 := ⟨kiL_winner, GW_of (i := 700) (by decide +kernel) rfl, GW_of (i := 701) (by decide +kernel) rfl⟩
theorem ca_L_132 : VI RL 132 mX7_halt 0 7 := ⟨kiX7_halt, GW_of (i := 606) (by decide +kernel) rfl, GW_of (i := 607) (by decide +kernel) rfl, GW_of (i := 608) (by decide +kernel) rfl, TX7, 10, rfl⟩
theorem ca_L_125 : VI RL 125 mX7_right 2 7 := ⟨kiX7_right, GW_of (i := 644) (by decide +kernel) rfl, GW_of (i := 645) (by decide +kernel) rfl, GW_of (i := 646) (by decide +kernel) rfl, TX7, 10, rfl⟩
theorem ca_L_128 : VI RL 128 mX7_contact 3 7 := ⟨kiX7_contact, GW_of (i := 673) (by decide +kernel) rfl, GW_of (i := 674) (by decide +kernel) rfl, GW_of (i := 675) (by decide +kernel) rfl, TX7, 10, rfl⟩
theorem ca_L_214 : II RL 214 mX7_init 1 := ⟨kiX7_init, GW_of (i := 49) (by decide +kernel) rfl, GW_of (i := 50) (by decide +kernel) rfl, rfl⟩
theorem ca_L_217 : VI RL 217 mX7_fencer 0 7 := ⟨kiX7_fencer, GW_of (i := 169) (by decide +kernel) rfl, GW_of (i := 170) (by decide +kernel) rfl, GW_of (i := 171) (by decide +kernel) rfl, TX7, 10, rfl⟩
theorem ca_L_219 : VI RL 219 mX7_drawPools 1 7 := ⟨kiX7_drawPools, GW_of (i := 268) (by decide +kernel) rfl, GW_of (i := 269) (by decide +kernel) rfl, GW_of (i := 270) (by decide +kernel) rfl, TX7, 10, rfl⟩
theorem ca_L_144 : WI RL 144 mL_begun 4 := ⟨by decide, GW_of (i := 348) (by decide +kernel) rfl, GW_of (i := 22) (by decide +kernel) rfl, ⟨by decide +kernel, by decide +kernel⟩, GW_of (i := 346) (by decide +kernel) rfl, GW_of (i := 347) (by decide +kernel) rfl, by decide +kernel⟩
theorem ca_L_163 : SI RL 163 mL_from 3 := ⟨kiL_from, GW_of (i := 404) (by decide +kernel) rfl, GW_of (i := 405) (by decide +kernel) rfl⟩
theorem ca_L_223 : SI RL 223 mL_acts 13 := ⟨kiL_acts, GW_of (i := 409) (by decide +kernel) rfl, GW_of (i := 410) (by decide +kernel) rfl⟩
theorem ca_L_227 : SI RL 227 mL_isTold 8 := ⟨kiL_isTold, GW_of (i := 825) (by decide +kernel) rfl, GW_of (i := 826) (by decide +kernel) rfl⟩
theorem ca_L_35 : SI RL 35 mL_sum 6 := ⟨kiL_sum, GW_of (i := 755) (by decide +kernel) rfl, GW_of (i := 756) (by decide +kernel) rfl⟩
theorem ca_L_191 : WI RL 191 mL_appealed 3 := ⟨by decide, GW_of (i := 708) (by decide +kernel) rfl, GW_of (i := 22) (by decide +kernel) rfl, ⟨by decide +kernel, by decide +kernel⟩, GW_of (i := 706) (by decide +kernel) rfl, GW_of (i := 707) (by decide +kernel) rfl, by decide +kernel⟩
theorem ca_L_19 : SI RL 19 mL_touches 4 := ⟨kiL_touches, GW_of (i := 418) (by decide +kernel) rfl, GW_of (i := 419) (by decide +kernel) rfl⟩
theorem ca_L_49 : SI RL 49 mL_number 1 := ⟨kiL_number, GW_of (i := 430) (by decide +kernel) rfl, GW_of (i := 431) (by decide +kernel) rfl⟩
theorem ca_L_148 : SI RL 148 mL_armed 5 := ⟨kiL_armed, GW_of (i := 433) (by decide +kernel) rfl, GW_of (i := 434) (by decide +kernel) rfl⟩
theorem ca_L_152 : WI RL 152 mL_allez 1 := ⟨by decide, GW_of (i := 556) (by decide +kernel) rfl, GW_of (i := 22) (by decide +kernel) rfl, ⟨by decide +kernel, by decide +kernel⟩, GW_of (i := 554) (by decide +kernel) rfl, GW_of (i := 555) (by decide +kernel) rfl, by decide +kernel⟩
theorem ca_L_155 : WI RL 155 mL_halted 1 := ⟨by decide, GW_of (i := 605) (by decide +kernel) rfl, GW_of (i := 22) (by decide +kernel) rfl, ⟨by decide +kernel, by decide +kernel⟩, GW_of (i := 603) (by decide +kernel) rfl, GW_of (i := 604) (by decide +kernel) rfl, by decide +kernel⟩
theorem ca_L_158 : WI RL 158 mL_heard 3 := ⟨by decide, GW_of (i := 643) (by decide +kernel) rfl, GW_of (i := 22) (by decide +kernel) rfl, ⟨by decide +kernel, by decide +kernel⟩, GW_of (i := 641) (by decide +kernel) rfl, GW_of (i := 642) (by decide +kernel) rfl, by decide +kernel⟩
theorem ca_L_53 : VI RL 53 mX7_isFencing 0 7 := ⟨kiX7_isFencing, GW_of (i := 680) (by decide +kernel) rfl, GW_of (i := 681) (by decide +kernel) rfl, GW_of (i := 682) (by decide +kernel) rfl, TX7, 10, rfl⟩
theorem ca_L_169 : SI RL 169 mL_judge 4 := ⟨kiL_judge, GW_of (i := 687) (by decide +kernel) rfl, GW_of (i := 688) (by decide +kernel) rfl⟩
theorem ca_L_230 : SI RL 230 mL_holds 1 := ⟨kiL_holds, GW_of (i := 44) (by decide +kernel) rfl, GW_of (i := 45) (by decide +kernel) rfl⟩
theorem ca_L_43 : VI RL 43 mX7_piste 0 7 := ⟨kiX7_piste, GW_of (i := 828) (by decide +kernel) rfl, GW_of (i := 829) (by decide +kernel) rfl, GW_of (i := 830) (by decide +kernel) rfl, TX7, 10, rfl⟩
theorem ca_L_57 : VI RL 57 mX7_weaponOf 1 7 := ⟨kiX7_weaponOf, GW_of (i := 832) (by decide +kernel) rfl, GW_of (i := 833) (by decide +kernel) rfl, GW_of (i := 834) (by decide +kernel) rfl, TX7, 10, rfl⟩
theorem ca_L_60 : VI RL 60 mX7_size 0 7 := ⟨kiX7_size, GW_of (i := 836) (by decide +kernel) rfl, GW_of (i := 837) (by decide +kernel) rfl, GW_of (i := 838) (by decide +kernel) rfl, TX7, 10, rfl⟩
theorem ca_L_63 : VI RL 63 mX7_gone 0 7 := ⟨kiX7_gone, GW_of (i := 840) (by decide +kernel) rfl, GW_of (i := 841) (by decide +kernel) rfl, GW_of (i := 842) (by decide +kernel) rfl, TX7, 10, rfl⟩
theorem ca_L_66 : VI RL 66 mX7_phrases 1 7 := ⟨kiX7_phrases, GW_of (i := 844) (by decide +kernel) rfl, GW_of (i := 845) (by decide +kernel) rfl, GW_of (i := 846) (by decide +kernel) rfl, TX7, 10, rfl⟩
theorem ca_L_69 : VI RL 69 mX7_score 2 7 := ⟨kiX7_score, GW_of (i := 849) (by decide +kernel) rfl, GW_of (i := 850) (by decide +kernel) rfl, GW_of (i := 851) (by decide +kernel) rfl, TX7, 10, rfl⟩
theorem ca_L_73 : VI RL 73 mX7_scoreAnew 2 7 := ⟨kiX7_scoreAnew, GW_of (i := 854) (by decide +kernel) rfl, GW_of (i := 855) (by decide +kernel) rfl, GW_of (i := 856) (by decide +kernel) rfl, TX7, 10, rfl⟩
theorem ca_L_76 : VI RL 76 mX7_appeals 2 7 := ⟨kiX7_appeals, GW_of (i := 863) (by decide +kernel) rfl, GW_of (i := 864) (by decide +kernel) rfl, GW_of (i := 865) (by decide +kernel) rfl, TX7, 10, rfl⟩
theorem ca_L_79 : VI RL 79 mX7_fencerOf 2 7 := ⟨kiX7_fencerOf, GW_of (i := 867) (by decide +kernel) rfl, GW_of (i := 868) (by decide +kernel) rfl, GW_of (i := 869) (by decide +kernel) rfl, TX7, 10, rfl⟩
theorem ca_L_82 : VI RL 82 mX7_winner 1 7 := ⟨kiX7_winner, GW_of (i := 871) (by decide +kernel) rfl, GW_of (i := 872) (by decide +kernel) rfl, GW_of (i := 873) (by decide +kernel) rfl, TX7, 10, rfl⟩
theorem ca_L_84 : VI RL 84 mX7_touches 2 7 := ⟨kiX7_touches, GW_of (i := 877) (by decide +kernel) rfl, GW_of (i := 878) (by decide +kernel) rfl, GW_of (i := 879) (by decide +kernel) rfl, TX7, 10, rfl⟩
theorem ca_L_86 : VI RL 86 mX7_nodeWinner 1 7 := ⟨kiX7_nodeWinner, GW_of (i := 882) (by decide +kernel) rfl, GW_of (i := 883) (by decide +kernel) rfl, GW_of (i := 884) (by decide +kernel) rfl, TX7, 10, rfl⟩
theorem ca_L_89 : VI RL 89 mX7_owner 1 7 := ⟨kiX7_owner, GW_of (i := 888) (by decide +kernel) rfl, GW_of (i := 889) (by decide +kernel) rfl, GW_of (i := 890) (by decide +kernel) rfl, TX7, 10, rfl⟩
theorem ca_L_92 : VI RL 92 mX7_mark 1 7 := ⟨kiX7_mark, GW_of (i := 892) (by decide +kernel) rfl, GW_of (i := 893) (by decide +kernel) rfl, GW_of (i := 894) (by decide +kernel) rfl, TX7, 10, rfl⟩
theorem ca_L_95 : VI RL 95 mX7_won 1 7 := ⟨kiX7_won, GW_of (i := 896) (by decide +kernel) rfl, GW_of (i := 897) (by decide +kernel) rfl, GW_of (i := 898) (by decide +kernel) rfl, TX7, 10, rfl⟩
theorem ca_L_98 : VI RL 98 mX7_index 1 7 := ⟨kiX7_index, GW_of (i := 900) (by decide +kernel) rfl, GW_of (i := 901) (by decide +kernel) rfl, GW_of (i := 902) (by decide +kernel) rfl, TX7, 10, rfl⟩
theorem ca_L_101 : VI RL 101 mX7_rankedAt 1 7 := ⟨kiX7_rankedAt, GW_of (i := 905) (by decide +kernel) rfl, GW_of (i := 906) (by decide +kernel) rfl, GW_of (i := 907) (by decide +kernel) rfl, TX7, 10, rfl⟩
theorem ca_L_236 : WI RL 236 mL_isHeld 1 := ⟨by decide, GW_of (i := 40) (by decide +kernel) rfl, GW_of (i := 22) (by decide +kernel) rfl, ⟨by decide +kernel, by decide +kernel⟩, GW_of (i := 38) (by decide +kernel) rfl, GW_of (i := 39) (by decide +kernel) rfl, by decide +kernel⟩
theorem ca_L_39 : SI RL 39 mL_isAhead 6 := ⟨kiL_isAhead, GW_of (i := 752) (by decide +kernel) rfl, GW_of (i := 753) (by decide +kernel) rfl⟩
theorem ca_L_9 : SI RL 9 mL_bits 5 := ⟨kiL_bits, GW_of (i := 421) (by decide +kernel) rfl, GW_of (i := 422) (by decide +kernel) rfl⟩
theorem ca_L_15 : SI RL 15 mL_strikes 3 := ⟨kiL_strikes, GW_of (i := 424) (by decide +kernel) rfl, GW_of (i := 425) (by decide +kernel) rfl⟩
theorem hi_L_allez_0_1 : HI mL_allez 1 0 5 1 1 := ⟨[], (0, 4, 5, 113), [], rfl, (fun z hz => nomatch hz), by decide, by decide, cl_L_113, EW_of (i := 179) (by decide +kernel) rfl, rfl, by decide, Or.inl ⟨1, rfl, dL_allez_5, rfl⟩⟩
theorem hi_L_appealed_0_3 : HI mL_appealed 3 0 7 3 1 := ⟨[], (0, 6, 7, 113), [], rfl, (fun z hz => nomatch hz), by decide, by decide, cl_L_113, EW_of (i := 179) (by decide +kernel) rfl, rfl, by decide, Or.inl ⟨3, rfl, dL_appealed_7, rfl⟩⟩
theorem hi_L_begun_2_4 : HI mL_begun 4 2 8 4 2 := ⟨[], (0, 7, 8, 111), [(0, 7, 13, 113)], rfl, (fun z hz => nomatch hz), by decide, by decide, cl_L_111, EW_of (i := 367) (by decide +kernel) rfl, rfl, by decide, Or.inr ⟨dL_begun_8, rfl⟩⟩
theorem hi_L_begun_0_4 : HI mL_begun 4 0 13 4 2 := ⟨[(0, 7, 8, 111)], (0, 7, 13, 113), [], rfl, List.forall_mem_cons.mpr ⟨Or.inr ⟨by decide, exN 2, cl_L_111, by decide⟩, (fun z hz => nomatch hz)⟩, by decide, by decide, cl_L_113, EW_of (i := 179) (by decide +kernel) rfl, rfl, by decide, Or.inr ⟨dL_begun_13, rfl⟩⟩
theorem hi_L_changed_0_3 : HI mL_changed 3 0 7 3 1 := ⟨[], (0, 6, 7, 113), [], rfl, (fun z hz => nomatch hz), by decide, by decide, cl_L_113, EW_of (i := 179) (by decide +kernel) rfl, rfl, by decide, Or.inl ⟨3, rfl, dL_changed_7, rfl⟩⟩
theorem hi_L_drawn_0_1 : HI mL_drawn 1 0 5 1 1 := ⟨[], (0, 4, 5, 113), [], rfl, (fun z hz => nomatch hz), by decide, by decide, cl_L_113, EW_of (i := 179) (by decide +kernel) rfl, rfl, by decide, Or.inl ⟨1, rfl, dL_drawn_5, rfl⟩⟩
theorem hi_L_halted_0_1 : HI mL_halted 1 0 5 1 1 := ⟨[], (0, 4, 5, 113), [], rfl, (fun z hz => nomatch hz), by decide, by decide, cl_L_113, EW_of (i := 179) (by decide +kernel) rfl, rfl, by decide, Or.inl ⟨1, rfl, dL_halted_5, rfl⟩⟩
theorem hi_L_heard_0_10 : HI mL_heard 10 0 37 3 1 := ⟨[], (0, 36, 37, 113), [], rfl, (fun z hz => nomatch hz), by decide, by decide, cl_L_113, EW_of (i := 179) (by decide +kernel) rfl, rfl, by decide, Or.inl ⟨3, rfl, dL_heard_37, rfl⟩⟩
theorem hi_L_heard_0_33 : HI mL_heard 33 0 37 3 1 := ⟨[], (0, 36, 37, 113), [], rfl, (fun z hz => nomatch hz), by decide, by decide, cl_L_113, EW_of (i := 179) (by decide +kernel) rfl, rfl, by decide, Or.inl ⟨3, rfl, dL_heard_37, rfl⟩⟩
theorem hi_L_tested_0_4 : HI mL_tested 4 0 16 4 2 := ⟨[], (0, 15, 16, 113), [], rfl, (fun z hz => nomatch hz), by decide, by decide, cl_L_113, EW_of (i := 179) (by decide +kernel) rfl, rfl, by decide, Or.inr ⟨dL_tested_16, rfl⟩⟩
theorem kc_222 : Cond.constant RL 222 (10000000 : Int32) ∈ GW := GW_of (i := 403) (by decide +kernel) rfl
theorem kc_7 : Cond.constant RL 7 (230003 : Int32) ∈ GW := GW_of (i := 407) (by decide +kernel) rfl
theorem kc_8 : Cond.constant RL 8 (2147483647 : Int32) ∈ GW := GW_of (i := 408) (by decide +kernel) rfl
theorem kc_162 : Cond.constant RL 162 (1000000 : Int32) ∈ GW := GW_of (i := 679) (by decide +kernel) rfl
theorem kl_173 : Cond.constantLong RL 173 (16 : Int64) ∈ GW := GW_of (i := 690) (by decide +kernel) rfl
theorem kl_175 : Cond.constantLong RL 175 (256 : Int64) ∈ GW := GW_of (i := 691) (by decide +kernel) rfl
theorem kl_177 : Cond.constantLong RL 177 (1024 : Int64) ∈ GW := GW_of (i := 692) (by decide +kernel) rfl
theorem kl_179 : Cond.constantLong RL 179 (4096 : Int64) ∈ GW := GW_of (i := 693) (by decide +kernel) rfl
theorem kl_181 : Cond.constantLong RL 181 (16384 : Int64) ∈ GW := GW_of (i := 694) (by decide +kernel) rfl
theorem kl_183 : Cond.constantLong RL 183 (65535 : Int64) ∈ GW := GW_of (i := 695) (by decide +kernel) rfl
theorem kl_185 : Cond.constantLong RL 185 (-1 : Int64) ∈ GW := GW_of (i := 696) (by decide +kernel) rfl
theorem kl_194 : Cond.constantLong RL 194 (3 : Int64) ∈ GW := GW_of (i := 730) (by decide +kernel) rfl
end
