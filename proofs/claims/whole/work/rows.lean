section
/-! ===== BEGIN words of one list among another's, by their places ===== -/
theorem goodIn_r {big : List Cond} (ws : List Cond) (ps : List Nat) (hp : ws = ps.filterMap (fun i => big[i]?)) (h : ws.all goodWord = true) : GoodIn big ws := by
  intro w hw
  have h1 := List.all_eq_true.mp h w hw
  rw [hp] at hw
  obtain ⟨i, -, hi⟩ := List.mem_filterMap.mp hw
  have hm : w ∈ big := by first | exact List.mem_of_getElem? hi | exact List.getElem?_mem hi
  exact ⟨hm, good_of_word h1⟩
theorem goodIn_app {big a b : List Cond} (ha : GoodIn big a) (hb : GoodIn big b) : GoodIn big (a ++ b) := fun w h => (List.mem_append.mp h).elim (ha w) (hb w)
theorem goodIn_ca {big a b : List Cond} {c : Cond} (ha : GoodIn big (c :: a)) (hb : GoodIn big b) : GoodIn big (c :: (a ++ b)) := fun w h => (List.mem_cons.mp h).elim (fun e => ha w (List.mem_cons.mpr (Or.inl e))) (fun h => (List.mem_append.mp h).elim (fun h => ha w (List.mem_cons.mpr (Or.inr h))) (hb w))
theorem goodIn_sub {big ws : List Cond} (hm : ∀ w ∈ ws, w ∈ big) (h : ws.all goodWord = true) : GoodIn big ws := fun w hw => ⟨hm w hw, good_of_word (List.all_eq_true.mp h w hw)⟩
/-! ===== END ===== -/

/-! ===== BEGIN exceptions that leave a method, and their catching by the caller (launches without stack traces) ===== -/
section VXA
/-! The laws vx_back, vx_callV, vx_callS, vx_callSW, vx_throw0, vx_throwS follow proofs of the library, with one case more: JvmDerived/Free/Laws.lean (Back.of_free), Shelf42/LK1.lean (callV, callS), Shelf/KitTraced.lean (throwNew0V, throwNewS). -/
/-- where a method has thrown q: the class by its name, the cell, what was written, the world -/
def vx_T (XC : String → State → State → Prop) (st : State) (q : Addr) (t : State) (mc ms : Nat) (free : Addr → Prop) : Prop :=
  ∃ (E : String) (ce : Cell) (L : List Loc), XC E st t ∧ t.heap[q]? = some ce ∧ ce.vm = .none ∧ st.vm.findClass E = some ce.cls ∧ st.WarmedH t.vm ∧ st.sameButNew ({ t with vm := st.vm } : State) L mc ms ∧ ∀ z ∈ L, free z.base
def vx_Q (Qc : Array Value → State → Outcome → State → Prop) (XC : String → State → State → Prop) (mc ms : Nat) (free : Addr → Prop) : Array Value → State → Outcome → State → Prop := fun a st o t =>
  (Qc a st o t ∧ ∃ L, FrameEnd st o t L mc ms ∧ ∀ q ∈ L, free q.base) ∨ ∃ q, o = .threw q ∧ vx_T XC st q t mc ms free
/-- a callee that returns or throws -/
def vx_Met (l : Launch) (y : MethodName) (ws : List Cond) (rm : Room) (Pc : Array Value → State → Prop) (Qc : Array Value → State → Outcome → State → Prop) (XC : String → State → State → Prop) (mc ms : Nat) (free : Addr → Prop) : Prop :=
  MetFree l y (headSpec ws rm) Pc (fun _ _ _ _ _ => True) (vx_Q Qc XC mc ms free)
def vx_Post (XC : String → State → State → Prop) (mc ms : Nat) (free : Addr → Prop) : Pt → Array Value → Addr → Pt → Prop := fun A a q B =>
  ∃ (g : JFrame) (mk : MethodId) (t : State) (L : List Loc) (E : String) (ce : Cell), B.U.heap = t.heap ∧ B.U.vm = t.vm ∧ XC E (A.U.calling g mk a) t ∧ t.heap[q]? = some ce ∧ ce.vm = .none ∧ A.U.vm.findClass E = some ce.cls ∧ B.locs = A.locs ++ L ∧ (∀ z ∈ L, free z.base) ∧ B.cells = A.cells + mc ∧ B.slots = A.slots + ms
def vx_Back (l : Launch) (R : Room) (p : Program) (e : Env) (below : List Frame) (s : State) (sargs : Array Value) (y : MethodName) (len W9 : Nat)
    (Pre : Pt → Array Value → Prop) (Post : Pt → Array Value → Option Value → Pt → Prop) (PostX : Pt → Array Value → Addr → Pt → Prop) : Prop :=
  ∀ (m : MethodId) (meth : Method) (c : Code) (A : Pt) (g : JFrame) (ig : Instr) (mk : MethodId) (a : Array Value),
    Stand p l e R s m sargs below meth c A.U A.locs A.cells A.slots → g.method = m → g.locals.size = c.maxLocals → decode c.code g.pc = .ok (ig, len) →
    2 * g.monitorRoom + (g.stack.map fun v => v.category).sum ≤ W9 → A.U.methodNamed? y = some mk → Pre A a →
    (∃ (v : Option Value) (B : Pt), Stand p l e R s m sargs below meth c B.U B.locs B.cells B.slots ∧ Post A a v B ∧
      Steps p.tables e below (doInvoke e (A.U.setTop g) [] mk a).1 (B.U.setTop { g with pc := g.pc + len, stack := v.toList ++ g.stack })) ∨
    (∃ (q : Addr) (B : Pt), Stand p l e R s m sargs below meth c B.U B.locs B.cells B.slots ∧ PostX A a q B ∧
      Steps p.tables e below (doInvoke e (A.U.setTop g) [] mk a).1 ((B.U.setTop g).pushFrame (.throwing q)))
section Payer
variable {l : Launch} {R : Room} {p : Program} {e : Env} {below : List Frame} {s : State} {sargs : Array Value} {y : MethodName} {len W9 : Nat}
theorem vx_back {ws : List Cond} {rm : Room} {Pc : Array Value → State → Prop} {Qc : Array Value → State → Outcome → State → Prop} {XC : String → State → State → Prop} {mc ms : Nat} {free : Addr → Prop} {bytes : ByteArray} {maxL : Nat} {ret : Option FieldType}
    (hM : vx_Met l y ws rm Pc Qc XC mc ms free) (hblind : FrameBlind Pc) (hrc : rm.cells = mc) (hrs : rm.slots = ms)
    (hframes : rm.frames + 1 ≤ R.frames) (hlocals : W9 + (maxL + 11) + rm.locals ≤ R.locals)
    (hws : ∀ w ∈ ws, ∀ a' U, s.WarmedH U.vm → w.before a' U = true) (hcode : Cond.code y bytes maxL ret ∈ ws) (hinit : ∀ a' U, s.WarmedH U.vm → (Cond.initialized y.cls).before a' U = true) :
    vx_Back l R p e below s sargs y len W9 (PreOf R mc ms Pc) (PostOf Qc mc ms free) (vx_Post XC mc ms free) := by
  intro m meth c A g ig mk a X hg hsize hdg hW hn hp
  have h1 : (headSpec ws rm).pre.before a A.U = true := atoms_intro fun w hw => hws w hw _ _ X.warmed
  have h2 : (Cond.code y bytes maxL ret).before a A.U = true := hws _ hcode _ _ X.warmed
  have h3 : (Cond.initialized y.cls).before a A.U = true := hinit _ _ X.warmed
  have h4 : A.cells + (headSpec ws rm).room.cells ≤ R.cells := by rw [show (headSpec ws rm).room.cells = mc from hrc]; exact hp.1
  have h5 : A.slots + (headSpec ws rm).room.slots ≤ R.slots := by rw [show (headSpec ws rm).room.slots = ms from hrs]; exact hp.2.1
  have hPc : Pc a (A.U.calling g mk a) := hblind _ _ _ _ hp.2.2
  obtain ⟨U, Ls, c0, s0⟩ := A
  dsimp only [Pt.U, Pt.locs, Pt.cells, Pt.slots] at h1 h2 h3 h4 h5 X hn hPc ⊢
  obtain ⟨methY, cY, hmY, hcY, -, hlY, -, -, -, -⟩ := Cond.code_spec hn h2
  obtain ⟨kY, hkY, -⟩ := className_of_methodNamed hn
  have hinitY : kY.init = .initialized := Cond.initialized_spec (findClass_of_methodNamed hn) hkY h3
  have h : At U g.method c below := by rw [hg]; exact X.here
  have hlocals9 : W9 + (maxL + 11) + (headSpec ws rm).room.locals ≤ R.locals := hlocals
  have happ : (headSpec ws rm).appliesLoose y e.platform (U.calling g mk a) = true :=
    Spec.appliesLoose_calling (g := g) h hdg hn hkY hinitY
      (X.room_calling (g := g) (R' := (headSpec ws rm).room) hsize hmY hcY hframes (by rw [hlY]; omega) h4 h5) h1
  obtain ⟨mid, hmid⟩ := h.above
  have hfr : (U.setTop g).frames = (.java g :: mid) ++ below := by rw [State.frames_setTop' g h.top, hmid]; rfl
  obtain ⟨o, s₂, hsteps, -, hend, hq⟩ := Steps.callFree hM p X.admits X.cas X.clock (acts := []) hfr happ hPc trivial
  have hq' : vx_Q Qc XC mc ms free a (U.calling g mk a) o s₂ := hq
  rw [State.frames_setTop' g h.top] at hend
  obtain ⟨g₀, hg0⟩ := Option.isSome_iff_exists.mp h.top
  obtain ⟨r, hr⟩ := State.topJava?_eq_some.mp hg0
  have hr' : (({ U with heap := s₂.heap, slotsUsed := s₂.slotsUsed } : State).setVm s₂.vm).frames = .java g₀ :: r := hr
  rcases hq' with ⟨hqc, L, hfe, hL⟩ | ⟨q, rfl, E, ce, L, hx, hce, hcv, hcl, hW₂, hsm, hL⟩
  · obtain ⟨⟨v, rfl⟩, hW₂, e2, q2, q3, q4, q5, q6⟩ := id hfe
    have e3 : s₂ = ({ (U.calling g mk a).setFrames s₂.frames with heap := s₂.heap, slotsUsed := s₂.slotsUsed } : State).setVm s₂.vm := by
      have : s₂ = ({ s₂ with vm := (U.calling g mk a).vm } : State).setVm s₂.vm := rfl
      rw [e2] at this
      exact this
    obtain ⟨c₂, i₂, len₂, hc₂, hd₂, hf₂⟩ := hend
    have hW' : U.WarmedH s₂.vm := hW₂
    have hcc : c₂ = c := by
      have h1 : s₂.code? g.method = U.code? g.method := by
        rw [State.code?_eq, State.code?_eq, hW'.alike.method?]
      exact Option.some.inj (hc₂.symm.trans (h1.trans h.code))
    subst hcc
    have hlen : len₂ = len := by rw [hdg] at hd₂; cases hd₂; rfl
    subst hlen
    have hs₂ : s₂ = (({ U with heap := s₂.heap, slotsUsed := s₂.slotsUsed } : State).setVm s₂.vm).setTop { g with pc := g.pc + len₂, stack := v.toList ++ g.stack } := by
      refine e3.trans ?_
      rw [hf₂, State.calling_eq h.top, State.setFrames_setFrames, State.setTop_of_frames _ hr', hr]
      rfl
    have hsame : U.sameButNew ({ U with heap := s₂.heap, slotsUsed := s₂.slotsUsed } : State) L mc ms := by
      refine ⟨?_, q2, q3, q4, q5, q6⟩
      obtain ⟨t, ht, -⟩ := State.frames_cons hr
      show ({ U with heap := s₂.heap, slotsUsed := s₂.slotsUsed } : State) = { U.setFrames U.frames with heap := s₂.heap, slotsUsed := s₂.slotsUsed }
      rw [State.setFrames_self ht]
    subst hg
    refine Or.inl ⟨v, ⟨(({ U with heap := s₂.heap, slotsUsed := s₂.slotsUsed } : State).setVm s₂.vm), Ls ++ L, c0 + mc, s0 + ms⟩,
      ⟨X.admits, X.cas, X.clock, X.frames, X.room, X.hears, X.method, X.code, (X.here.setHeapUsed s₂.heap s₂.slotsUsed).setVm hW'.alike, X.tail, State.WarmedH.trans X.warmed hW', X.limits, X.bytes, X.same.trans (hsame.setVm s.vm)⟩,
      ⟨g, mk, s₂, L, rfl, rfl, hqc, rfl, hL, rfl, rfl⟩, ?_⟩
    show Steps p.tables e below _ ((({ U with heap := s₂.heap, slotsUsed := s₂.slotsUsed } : State).setVm s₂.vm).setTop { g with pc := g.pc + len₂, stack := v.toList ++ g.stack })
    rw [← hs₂]
    exact hsteps
  · obtain ⟨e2, q2, q3, q4, q5, q6⟩ := id hsm
    have e3 : s₂ = ({ (U.calling g mk a).setFrames s₂.frames with heap := s₂.heap, slotsUsed := s₂.slotsUsed } : State).setVm s₂.vm := by
      have : s₂ = ({ s₂ with vm := (U.calling g mk a).vm } : State).setVm s₂.vm := rfl
      rw [e2] at this
      exact this
    have hf₂ : s₂.frames = .throwing q :: .java g :: U.frames.tail := hend
    have hW' : U.WarmedH s₂.vm := hW₂
    have hs₂ : s₂ = ((({ U with heap := s₂.heap, slotsUsed := s₂.slotsUsed } : State).setVm s₂.vm).setTop g).pushFrame (.throwing q) := by
      refine e3.trans ?_
      rw [hf₂, State.calling_eq h.top, State.setFrames_setFrames, State.pushFrame, State.frames_setTop _ hr', State.setTop_of_frames _ hr', State.setFrames_setFrames, hr]
      rfl
    have hsame : U.sameButNew ({ U with heap := s₂.heap, slotsUsed := s₂.slotsUsed } : State) L mc ms := by
      refine ⟨?_, q2, q3, q4, q5, q6⟩
      obtain ⟨t, ht, -⟩ := State.frames_cons hr
      show ({ U with heap := s₂.heap, slotsUsed := s₂.slotsUsed } : State) = { U.setFrames U.frames with heap := s₂.heap, slotsUsed := s₂.slotsUsed }
      rw [State.setFrames_self ht]
    subst hg
    refine Or.inr ⟨q, ⟨(({ U with heap := s₂.heap, slotsUsed := s₂.slotsUsed } : State).setVm s₂.vm), Ls ++ L, c0 + mc, s0 + ms⟩,
      ⟨X.admits, X.cas, X.clock, X.frames, X.room, X.hears, X.method, X.code, (X.here.setHeapUsed s₂.heap s₂.slotsUsed).setVm hW'.alike, X.tail, State.WarmedH.trans X.warmed hW', X.limits, X.bytes, X.same.trans (hsame.setVm s.vm)⟩,
      ⟨g, mk, s₂, L, E, ce, rfl, rfl, hx, hce, hcv, hcl, rfl, hL, rfl, rfl⟩, ?_⟩
    show Steps p.tables e below _ (((({ U with heap := s₂.heap, slotsUsed := s₂.slotsUsed } : State).setVm s₂.vm).setTop g).pushFrame (.throwing q))
    rw [← hs₂]
    exact hsteps
end Payer
section Calls
variable {p : Program} {l : Launch} {e : Env} {R : Room} {s : State} {m : MethodId} {args : Array Value} {below : List Frame} {meth : Method} {c : Code} {T : State} {locs : List Loc} {cells slots : Nat}
theorem vx_callV (X : Stand p l e R s m args below meth c T locs cells slots) (hexec : p.tables.exec = Jvm.exec) {own C : String} {index : Nat} {y : MethodName} {bytes : ByteArray} {maxL : Nat} {ret : Option FieldType}
    (hown : s.vm.findClass own = some m.cls) (hlink : (Cond.methodLink own index y).before args s = true) (hinst : (Cond.instanceMethod y).before args s = true) (hsel : (Cond.selects C y y).before args s = true)
    (hcode : (Cond.code y bytes maxL ret).before args s = true) (hy : y.cls ≠ "java/lang/invoke/MethodHandle" ∧ y.cls ≠ "java/lang/invoke/VarHandle")
    {W9 : Nat} {Pre : Pt → Array Value → Prop} {Post : Pt → Array Value → Option Value → Pt → Prop} {PostX : Pt → Array Value → Addr → Pt → Prop} (hK : vx_Back l R p e below s args y 3 W9 Pre Post PostX)
    {b : Addr} {cellB : Cell} (hcell : T.heap[b]? = some cellB) (hobj : cellB.vm.isStatics = false) (hcls : s.vm.findClass C = some cellB.cls)
    {g : JFrame} (hg : g.method = m) (hsize : g.locals.size = c.maxLocals) {argsL rest : List Value} (hlen : ∀ sig, parseMethodDescriptor y.desc = some sig → argsL.length = sig.parameters.length)
    (hstack : g.stack = argsL.reverse ++ .ref b :: rest) (hW : 2 * g.monitorRoom + (rest.map fun v => v.category).sum ≤ W9) (hdg : decode c.code g.pc = .ok (.invokevirtual index, 3))
    (hpre : ∀ vm₁, s.WarmedH vm₁ → Pre ⟨T.setVm vm₁, locs, cells, slots⟩ (Value.ref b :: argsL).toArray) :
    (∃ (v : Option Value) (vm₁ : Vm) (B : Pt), s.WarmedH vm₁ ∧ Stand p l e R s m args below meth c B.U B.locs B.cells B.slots ∧ Post ⟨T.setVm vm₁, locs, cells, slots⟩ (Value.ref b :: argsL).toArray v B ∧
      ∀ target, Steps p.tables e below (B.U.setTop { g with pc := g.pc + 3, stack := v.toList ++ rest }) target → Steps p.tables e below (T.setTop g) target) ∨
    (∃ (q : Addr) (vm₁ : Vm) (B : Pt), s.WarmedH vm₁ ∧ Stand p l e R s m args below meth c B.U B.locs B.cells B.slots ∧ PostX ⟨T.setVm vm₁, locs, cells, slots⟩ (Value.ref b :: argsL).toArray q B ∧
      Steps p.tables e below (T.setTop g) ((B.U.setTop { g with stack := rest }).pushFrame (.throwing q))) := by
  obtain ⟨mk, methM, hnamed, hmethM, hstM, habM⟩ := Cond.instanceMethod_spec hinst
  obtain ⟨methM', cM, hmethM', -, -, -, -, -, -, hsigM⟩ := Cond.code_spec hnamed hcode
  cases hmethM.symm.trans hmethM'
  obtain ⟨c2, r2, m2, q1, q2, q3, q4, kP, hkP, hkPi⟩ := Cond.selects_spec hsel
  cases hcls.symm.trans q1
  cases (State.methodFound?_of_named hnamed hy).symm.trans q2
  cases hnamed.symm.trans q3
  have hselP : selectMethod e.platform s.vm cellB.cls mk = .method mk := by rw [Launch.admits_selectMethod X.admits]; exact q4
  obtain ⟨vm₁, X₁, hstep₁⟩ := X.invokevirtual hexec hown hlink hnamed hmethM hstM hkP hkPi hy (a := b) (cell := cellB) hcell
    (fun z h => by rw [h] at hobj; cases hobj) hselP hmethM habM hkP hkPi (g := g) hg (argsL := argsL) (rest := rest) (hlen _ hsigM) hstack hdg
  rcases hK m meth c ⟨T.setVm vm₁, locs, cells, slots⟩ { g with stack := rest } (.invokevirtual index) mk (Value.ref b :: argsL).toArray X₁ hg hsize hdg hW (X₁.named hnamed) (hpre vm₁ X₁.warmed) with ⟨v, B, X', hpost, hsteps⟩ | ⟨q, B, X', hpost, hsteps⟩
  · exact Or.inl ⟨v, vm₁, B, X₁.warmed, X', hpost, fun target h => hstep₁ _ fun acts => by rw [doInvoke_state]; exact hsteps.trans h⟩
  · exact Or.inr ⟨q, vm₁, B, X₁.warmed, X', hpost, hstep₁ _ fun acts => by rw [doInvoke_state]; exact hsteps⟩
theorem vx_callS (X : Stand p l e R s m args below meth c T locs cells slots) (hexec : p.tables.exec = Jvm.exec) {own : String} {index : Nat} {y : MethodName} {bytes : ByteArray} {maxL : Nat} {ret : Option FieldType}
    (hown : s.vm.findClass own = some m.cls) (hlink : (Cond.methodLink own index y).before args s = true) (hstat : (Cond.static y).before args s = true) (hinit : (Cond.initialized y.cls).before args s = true)
    (hcode : (Cond.code y bytes maxL ret).before args s = true) (hy : y.cls ≠ "java/lang/invoke/MethodHandle" ∧ y.cls ≠ "java/lang/invoke/VarHandle")
    {W9 : Nat} {Pre : Pt → Array Value → Prop} {Post : Pt → Array Value → Option Value → Pt → Prop} {PostX : Pt → Array Value → Addr → Pt → Prop} (hK : vx_Back l R p e below s args y 3 W9 Pre Post PostX)
    {g : JFrame} (hg : g.method = m) (hsize : g.locals.size = c.maxLocals) {argsL rest : List Value} (hlen : ∀ sig, parseMethodDescriptor y.desc = some sig → argsL.length = sig.parameters.length)
    (hstack : g.stack = argsL.reverse ++ rest) (hW : 2 * g.monitorRoom + (rest.map fun v => v.category).sum ≤ W9) (hdg : decode c.code g.pc = .ok (.invokestatic index, 3))
    (hpre : ∀ vm₁, s.WarmedH vm₁ → Pre ⟨T.setVm vm₁, locs, cells, slots⟩ argsL.toArray) :
    (∃ (v : Option Value) (vm₁ : Vm) (B : Pt), s.WarmedH vm₁ ∧ Stand p l e R s m args below meth c B.U B.locs B.cells B.slots ∧ Post ⟨T.setVm vm₁, locs, cells, slots⟩ argsL.toArray v B ∧
      ∀ target, Steps p.tables e below (B.U.setTop { g with pc := g.pc + 3, stack := v.toList ++ rest }) target → Steps p.tables e below (T.setTop g) target) ∨
    (∃ (q : Addr) (vm₁ : Vm) (B : Pt), s.WarmedH vm₁ ∧ Stand p l e R s m args below meth c B.U B.locs B.cells B.slots ∧ PostX ⟨T.setVm vm₁, locs, cells, slots⟩ argsL.toArray q B ∧
      Steps p.tables e below (T.setTop g) ((B.U.setTop { g with stack := rest }).pushFrame (.throwing q))) := by
  obtain ⟨mk, hnamed⟩ := Cond.code_named hcode
  obtain ⟨methM, cM, hmethM, -, -, -, -, -, -, hsigM⟩ := Cond.code_spec hnamed hcode
  have hstatic : methM.isStatic = true := Cond.static_spec hnamed hmethM hstat
  obtain ⟨kP, hkP, -⟩ := className_of_methodNamed hnamed
  have hinitP : kP.init = .initialized := Cond.initialized_spec (findClass_of_methodNamed hnamed) hkP hinit
  obtain ⟨vm₁, X₁, hstep₁⟩ := X.invokestatic hexec hown hlink hnamed hmethM hstatic hkP hinitP hy (g := g) hg (argsL := argsL) (rest := rest) (hlen _ hsigM) hstack hdg
  rcases hK m meth c ⟨T.setVm vm₁, locs, cells, slots⟩ { g with stack := rest } (.invokestatic index) mk argsL.toArray X₁ hg hsize hdg hW (X₁.named hnamed) (hpre vm₁ X₁.warmed) with ⟨v, B, X', hpost, hsteps⟩ | ⟨q, B, X', hpost, hsteps⟩
  · exact Or.inl ⟨v, vm₁, B, X₁.warmed, X', hpost, fun target h => hstep₁ _ fun acts => by rw [doInvoke_state]; exact hsteps.trans h⟩
  · exact Or.inr ⟨q, vm₁, B, X₁.warmed, X', hpost, hstep₁ _ fun acts => by rw [doInvoke_state]; exact hsteps⟩
end Calls
theorem vx_cls {s : State} {T : State} {vm₁ : Vm} {E : String} {k : ClassId} (hW : s.WarmedH vm₁) (h : (T.setVm vm₁).vm.findClass E = some k) : s.vm.findClass E = some k := by
  have h1 : vm₁.findClass E = some k := h
  rw [hW.alike.findClass] at h1
  exact h1
/-- the method's frame g, with q thrown over it -/
def vx_W (p : Program) (l : Launch) (e : Env) (R : Room) (s : State) (m : MethodId) (args : Array Value) (below : List Frame) (meth : Method) (c : Code) (H : Heap) (locs : List Loc) (cells slots : Nat) (Q : State → Prop) (g : JFrame) (q : Addr) : Prop :=
  ∀ T : State, T.heap = H → Stand p l e R s m args below meth c T locs cells slots → ∃ t, Steps p.tables e below ((T.setTop g).pushFrame (.throwing q)) t ∧ Q t
def vx_Run (p : Program) (l : Launch) (e : Env) (R : Room) (s : State) (m : MethodId) (args : Array Value) (below : List Frame) (meth : Method) (c : Code) (H : Heap) (locs : List Loc) (cells slots mc ms : Nat) (g : JFrame) (rest : List Value) (Qa : State → Outcome → State → Prop) (XC : String → State → State → Prop) (free : Addr → Prop) : Prop :=
  ∀ T : State, T.heap = H → Stand p l e R s m args below meth c T locs cells slots →
    (∃ (v : Option Value) (st₀ t T' : State) (L : List Loc), st₀.heap = H ∧ Stand p l e R s m args below meth c T' (locs ++ L) (cells + mc) (slots + ms) ∧ (∀ q ∈ L, free q.base) ∧ T'.heap = t.heap ∧ T'.vm = t.vm ∧ Qa st₀ (.returned v) t ∧
      Goes p e below T g T' { g with pc := g.pc + 3, stack := v.toList ++ rest }) ∨
    (∃ (q : Addr) (st₀ t T' : State) (L : List Loc) (E : String) (ce : Cell), st₀.heap = H ∧ Stand p l e R s m args below meth c T' (locs ++ L) (cells + mc) (slots + ms) ∧ (∀ z ∈ L, free z.base) ∧ T'.heap = t.heap ∧ T'.vm = t.vm ∧ XC E st₀ t ∧ t.heap[q]? = some ce ∧ ce.vm = .none ∧ s.vm.findClass E = some ce.cls ∧
      Steps p.tables e below (T.setTop g) ((T'.setTop { g with stack := rest }).pushFrame (.throwing q)))
def vx_X {S : Type} (px : S → Prop) (B : String → S → State → Prop) (A : Nat → Prop) : String → State → State → Prop := fun E st t => ∃ u : S, px u ∧ B E u t ∧ va_F A st t
section Runs
variable {p : Program} {l : Launch} {e : Env} {R : Room} {s : State} {m : MethodId} {args : Array Value} {below : List Frame} {meth : Method} {c : Code} {H : Heap} {locs : List Loc} {cells slots : Nat}
variable {y : MethodName} {bytes cc : ByteArray} {maxL nL mc ms n index : Nat} {ret : Option FieldType} {ws : List Cond} {rm : Room} {Pc : Array Value → State → Prop} {Qc : Array Value → State → Outcome → State → Prop} {XC : String → State → State → Prop} {free : Addr → Prop} {Ts : List Cond} {own C : String} {b : Addr} {As rest : List Value} {g : JFrame}
theorem vx_callBack (cb : CallB R s args own index y bytes maxL ret ws rm mc ms n) (hM : vx_Met l y ws rm Pc Qc XC mc ms free) (hbl : FrameBlind Pc) : vx_Back l R p e below s args y 3 8 (PreOf R mc ms Pc) (PostOf Qc mc ms free) (vx_Post XC mc ms free) := by
  obtain ⟨hrc, hrs, hfr, hlo, hws, hcw, -, hini, -⟩ := cb
  exact vx_back (bytes := bytes) (maxL := maxL) (ret := ret) hM hbl hrc hrs hfr hlo hws hcw (fun a' U hW => word_at hW (Or.inl (by first | rfl | simp [Cond.onTables, Cond.keeps, Cond.steady])) hini)
theorem vx_runV (S : CallFix p m c cc nL s args Ts own) (hM : vx_Met l y ws rm Pc Qc XC mc ms free) (cw : CallW R s args own C index y bytes maxL ret ws rm mc ms n) (hp : PreV s H C b Pc As)
    (hg : g.method = m) (hn : As.length = n) (hsize : g.locals.size = nL) (hstack : g.stack = As.reverse ++ .ref b :: rest) (hW : 2 * g.monitorRoom + (rest.map fun v => v.category).sum ≤ 8) (hdg : decode cc g.pc = .ok (.invokevirtual index, 3)) (hf : cells + mc ≤ R.cells ∧ slots + ms ≤ R.slots) :
    vx_Run p l e R s m args below meth c H locs cells slots mc ms g rest (Qc (Value.ref b :: As).toArray) XC free := by
  have hK : vx_Back l R p e below s args y 3 8 (PreOf R mc ms Pc) (PostOf Qc mc ms free) (vx_Post XC mc ms free) := vx_callBack cw.1 hM hp.1
  obtain ⟨⟨-, -, -, -, -, -, hcode, -, hy, hlen, hl⟩, hin, hse⟩ := cw
  obtain ⟨hx, hb, hml, ho, -⟩ := S
  obtain ⟨-, ⟨cellB, hcB, hoB, hclB⟩, hPc⟩ := hp
  intro T hT X
  rcases vx_callV X hx (C := C) (bytes := bytes) (maxL := maxL) (ret := ret) ho hl hin hse hcode hy hK (by rw [hT]; exact hcB) hoB hclB hg (hsize.trans hml.symm) (argsL := As) (rest := rest) (fun sig h => hn.trans (hlen sig h)) hstack hW (by rw [hb]; exact hdg)
    (fun vm₁ hW₁ => ⟨hf.1, hf.2, hPc (T.setVm vm₁) hT hW₁⟩) with ⟨v, vm₁, ⟨U', l2, c2, s2⟩, hW₁, X', ⟨g', mk, t, L, e1, e2, hq, h1, hL, h2, h3⟩, st⟩ | ⟨q, vm₁, ⟨U', l2, c2, s2⟩, hW₁, X', ⟨g', mk, t, L, E, ce, e1, e2, hq, hce, hcv, hcl, h1, hL, h2, h3⟩, st⟩
  · dsimp only [Pt.U, Pt.locs, Pt.cells, Pt.slots] at X' e1 e2 h1 h2 h3 st
    subst h1; subst h2; subst h3
    exact Or.inl ⟨v, (T.setVm vm₁).calling g' mk (Value.ref b :: As).toArray, t, U', L, hT, X', hL, e1, e2, hq, st⟩
  · dsimp only [Pt.U, Pt.locs, Pt.cells, Pt.slots] at X' e1 e2 h1 h2 h3 st hcl
    subst h1; subst h2; subst h3
    exact Or.inr ⟨q, (T.setVm vm₁).calling g' mk (Value.ref b :: As).toArray, t, U', L, E, ce, hT, X', hL, e1, e2, hq, hce, hcv, vx_cls hW₁ hcl, st⟩
theorem vx_runS (S : CallFix p m c cc nL s args Ts own) (hM : vx_Met l y ws rm Pc Qc XC mc ms free) (cw : CallB R s args own index y bytes maxL ret ws rm mc ms n ∧ (Cond.static y).before args s = true) (hp : PreS s H Pc As)
    (hg : g.method = m) (hn : As.length = n) (hsize : g.locals.size = nL) (hstack : g.stack = As.reverse ++ rest) (hW : 2 * g.monitorRoom + (rest.map fun v => v.category).sum ≤ 8) (hdg : decode cc g.pc = .ok (.invokestatic index, 3)) (hf : cells + mc ≤ R.cells ∧ slots + ms ≤ R.slots) :
    vx_Run p l e R s m args below meth c H locs cells slots mc ms g rest (Qc As.toArray) XC free := by
  have hK : vx_Back l R p e below s args y 3 8 (PreOf R mc ms Pc) (PostOf Qc mc ms free) (vx_Post XC mc ms free) := vx_callBack cw.1 hM hp.1
  obtain ⟨⟨-, -, -, -, -, -, hcode, hini, hy, hlen, hl⟩, hstt⟩ := cw
  obtain ⟨hx, hb, hml, ho, -⟩ := S
  intro T hT X
  rcases vx_callS X hx (bytes := bytes) (maxL := maxL) (ret := ret) ho hl hstt hini hcode hy hK hg (hsize.trans hml.symm) (argsL := As) (rest := rest) (fun sig h => hn.trans (hlen sig h)) hstack hW (by rw [hb]; exact hdg)
    (fun vm₁ hW₁ => ⟨hf.1, hf.2, hp.2 (T.setVm vm₁) hT hW₁⟩) with ⟨v, vm₁, ⟨U', l2, c2, s2⟩, hW₁, X', ⟨g', mk, t, L, e1, e2, hq, h1, hL, h2, h3⟩, st⟩ | ⟨q, vm₁, ⟨U', l2, c2, s2⟩, hW₁, X', ⟨g', mk, t, L, E, ce, e1, e2, hq, hce, hcv, hcl, h1, hL, h2, h3⟩, st⟩
  · dsimp only [Pt.U, Pt.locs, Pt.cells, Pt.slots] at X' e1 e2 h1 h2 h3 st
    subst h1; subst h2; subst h3
    exact Or.inl ⟨v, (T.setVm vm₁).calling g' mk As.toArray, t, U', L, hT, X', hL, e1, e2, hq, st⟩
  · dsimp only [Pt.U, Pt.locs, Pt.cells, Pt.slots] at X' e1 e2 h1 h2 h3 st hcl
    subst h1; subst h2; subst h3
    exact Or.inr ⟨q, (T.setVm vm₁).calling g' mk As.toArray, t, U', L, E, ce, hT, X', hL, e1, e2, hq, hce, hcv, vx_cls hW₁ hcl, st⟩
end Runs
section Rows
variable {p : Program} {l : Launch} {e : Env} {R : Room} {s : State} {m : MethodId} {args : Array Value} {below : List Frame} {meth : Method} {c : Code} {H : Heap} {locs : List Loc} {cells slots : Nat} {Q : State → Prop}
variable {mc ms : Nat} {free : Addr → Prop} {A0 A1 : Nat → Prop} {H0 : Heap} {a : Array Value} {pc : Nat} {ls : Array Slot} {st0 rest : List Value}
theorem vx_keep {st₀ t T' : State} {L : List Loc} (h0 : st₀.heap = H) (e1 : T'.heap = t.heap) (hS : va_S A0 H0 H locs) (hA : ∀ q, q < H.size → A1 q → A0 q) (hf : ∀ q, free q → A0 q) (hL : ∀ q ∈ L, free q.base) (hF : va_F A1 st₀ t) :
    H.size ≤ T'.heap.size ∧ (∀ q : Nat, q < H.size → ¬ A1 q → T'.heap[q]? = H[q]?) ∧ va_S A0 H0 T'.heap (locs ++ L) := by
  obtain ⟨hz, hk⟩ := hF
  rw [h0] at hz hk
  exact ⟨by rw [e1]; exact hz, fun q h1 h2 => by rw [e1]; exact hk q h1 h2,
    ⟨Nat.le_trans hS.1 (by rw [e1]; exact hz), fun q h1 h2 => by rw [e1, hk q (Nat.lt_of_lt_of_le h1 hS.1) (fun z => h2 (hA q (Nat.lt_of_lt_of_le h1 hS.1) z))]; exact hS.2.1 q h1 h2, fun q hq => by
      rcases List.mem_append.mp hq with h | h
      · exact hS.2.2 q h
      · exact hf _ (hL q h)⟩⟩
theorem vx_calli {S SX : Type} {post : Int32 → S → Prop} {px : SX → Prop} {B : S → State → Prop} {BX : String → SX → State → Prop} {AX : Nat → Prop} (hr : vx_Run p l e R s m args below meth c H locs cells slots mc ms (F0 m pc ls st0) rest (va_Qi post B A1 a) (vx_X px BX AX) free) (hS : va_S A0 H0 H locs) (hA : ∀ q, q < H.size → A1 q → A0 q) (hf : ∀ q, free q → A0 q) (hAX : ∀ q, q < H.size → AX q → A0 q)
    (kx : ∀ (E : String) (ce : Cell) (q9 : Addr) (u : SX) (t : State) (H1 : Heap) (locs1 : List Loc), t.heap = H1 → s.vm.Alike t.vm → px u → BX E u t → H.size ≤ H1.size → (∀ q : Nat, q < H.size → ¬ AX q → H1[q]? = H[q]?) → va_S A0 H0 H1 locs1 → H1[q9]? = some ce → ce.vm = .none → s.vm.findClass E = some ce.cls → vx_W p l e R s m args below meth c H1 locs1 (cells + mc) (slots + ms) Q (F0 m pc ls rest) q9)
    (kk : ∀ (r : Int32) (u : S) (t : State) (H1 : Heap) (locs1 : List Loc), t.heap = H1 → s.vm.Alike t.vm → post r u → B u t → H.size ≤ H1.size → (∀ q : Nat, q < H.size → ¬ A1 q → H1[q]? = H[q]?) → va_S A0 H0 H1 locs1 → W p l e R s m args below meth c H1 locs1 (cells + mc) (slots + ms) Q (F0 m (pc + 3) ls (.int r :: rest))) : W p l e R s m args below meth c H locs cells slots Q (F0 m pc ls st0) := by
  intro T hT X
  rcases hr T hT X with ⟨v, st₀, t, T', L, h0, X', hL, e1, e2, ⟨⟨r, u, hv, hp, hb⟩, hF⟩, st⟩ | ⟨q, st₀, t, T', L, E, ce, h0, X', hL, e1, e2, ⟨u, hp, hb, hF⟩, hce, hcv, hcl, st⟩
  · cases hv
    obtain ⟨k1, k2, k3⟩ := vx_keep h0 e1 hS hA hf hL hF
    obtain ⟨t2, a1, b1⟩ := kk r u t T'.heap (locs ++ L) e1.symm (by rw [← e2]; exact X'.warmed.alike) hp hb k1 k2 k3 T' rfl X'
    exact ⟨t2, st t2 a1, b1⟩
  · obtain ⟨k1, k2, k3⟩ := vx_keep h0 e1 hS hAX hf hL hF
    obtain ⟨t2, a1, b1⟩ := kx E ce q u t T'.heap (locs ++ L) e1.symm (by rw [← e2]; exact X'.warmed.alike) hp hb k1 k2 k3 (by rw [e1]; exact hce) hcv hcl T' rfl X'
    exact ⟨t2, st.trans a1, b1⟩
theorem vx_calll {S SX : Type} {post : Int64 → S → Prop} {px : SX → Prop} {B : S → State → Prop} {BX : String → SX → State → Prop} {AX : Nat → Prop} (hr : vx_Run p l e R s m args below meth c H locs cells slots mc ms (F0 m pc ls st0) rest (va_Ql post B A1 a) (vx_X px BX AX) free) (hS : va_S A0 H0 H locs) (hA : ∀ q, q < H.size → A1 q → A0 q) (hf : ∀ q, free q → A0 q) (hAX : ∀ q, q < H.size → AX q → A0 q)
    (kx : ∀ (E : String) (ce : Cell) (q9 : Addr) (u : SX) (t : State) (H1 : Heap) (locs1 : List Loc), t.heap = H1 → s.vm.Alike t.vm → px u → BX E u t → H.size ≤ H1.size → (∀ q : Nat, q < H.size → ¬ AX q → H1[q]? = H[q]?) → va_S A0 H0 H1 locs1 → H1[q9]? = some ce → ce.vm = .none → s.vm.findClass E = some ce.cls → vx_W p l e R s m args below meth c H1 locs1 (cells + mc) (slots + ms) Q (F0 m pc ls rest) q9)
    (kk : ∀ (r : Int64) (u : S) (t : State) (H1 : Heap) (locs1 : List Loc), t.heap = H1 → s.vm.Alike t.vm → post r u → B u t → H.size ≤ H1.size → (∀ q : Nat, q < H.size → ¬ A1 q → H1[q]? = H[q]?) → va_S A0 H0 H1 locs1 → W p l e R s m args below meth c H1 locs1 (cells + mc) (slots + ms) Q (F0 m (pc + 3) ls (.long r :: rest))) : W p l e R s m args below meth c H locs cells slots Q (F0 m pc ls st0) := by
  intro T hT X
  rcases hr T hT X with ⟨v, st₀, t, T', L, h0, X', hL, e1, e2, ⟨⟨r, u, hv, hp, hb⟩, hF⟩, st⟩ | ⟨q, st₀, t, T', L, E, ce, h0, X', hL, e1, e2, ⟨u, hp, hb, hF⟩, hce, hcv, hcl, st⟩
  · cases hv
    obtain ⟨k1, k2, k3⟩ := vx_keep h0 e1 hS hA hf hL hF
    obtain ⟨t2, a1, b1⟩ := kk r u t T'.heap (locs ++ L) e1.symm (by rw [← e2]; exact X'.warmed.alike) hp hb k1 k2 k3 T' rfl X'
    exact ⟨t2, st t2 a1, b1⟩
  · obtain ⟨k1, k2, k3⟩ := vx_keep h0 e1 hS hAX hf hL hF
    obtain ⟨t2, a1, b1⟩ := kx E ce q u t T'.heap (locs ++ L) e1.symm (by rw [← e2]; exact X'.warmed.alike) hp hb k1 k2 k3 (by rw [e1]; exact hce) hcv hcl T' rfl X'
    exact ⟨t2, st.trans a1, b1⟩
theorem vx_callf {S SX : Type} {post : UInt32 → S → Prop} {px : SX → Prop} {B : S → State → Prop} {BX : String → SX → State → Prop} {AX : Nat → Prop} (hr : vx_Run p l e R s m args below meth c H locs cells slots mc ms (F0 m pc ls st0) rest (va_Qf post B A1 a) (vx_X px BX AX) free) (hS : va_S A0 H0 H locs) (hA : ∀ q, q < H.size → A1 q → A0 q) (hf : ∀ q, free q → A0 q) (hAX : ∀ q, q < H.size → AX q → A0 q)
    (kx : ∀ (E : String) (ce : Cell) (q9 : Addr) (u : SX) (t : State) (H1 : Heap) (locs1 : List Loc), t.heap = H1 → s.vm.Alike t.vm → px u → BX E u t → H.size ≤ H1.size → (∀ q : Nat, q < H.size → ¬ AX q → H1[q]? = H[q]?) → va_S A0 H0 H1 locs1 → H1[q9]? = some ce → ce.vm = .none → s.vm.findClass E = some ce.cls → vx_W p l e R s m args below meth c H1 locs1 (cells + mc) (slots + ms) Q (F0 m pc ls rest) q9)
    (kk : ∀ (r : UInt32) (u : S) (t : State) (H1 : Heap) (locs1 : List Loc), t.heap = H1 → s.vm.Alike t.vm → post r u → B u t → H.size ≤ H1.size → (∀ q : Nat, q < H.size → ¬ A1 q → H1[q]? = H[q]?) → va_S A0 H0 H1 locs1 → W p l e R s m args below meth c H1 locs1 (cells + mc) (slots + ms) Q (F0 m (pc + 3) ls (.float r :: rest))) : W p l e R s m args below meth c H locs cells slots Q (F0 m pc ls st0) := by
  intro T hT X
  rcases hr T hT X with ⟨v, st₀, t, T', L, h0, X', hL, e1, e2, ⟨⟨r, u, hv, hp, hb⟩, hF⟩, st⟩ | ⟨q, st₀, t, T', L, E, ce, h0, X', hL, e1, e2, ⟨u, hp, hb, hF⟩, hce, hcv, hcl, st⟩
  · cases hv
    obtain ⟨k1, k2, k3⟩ := vx_keep h0 e1 hS hA hf hL hF
    obtain ⟨t2, a1, b1⟩ := kk r u t T'.heap (locs ++ L) e1.symm (by rw [← e2]; exact X'.warmed.alike) hp hb k1 k2 k3 T' rfl X'
    exact ⟨t2, st t2 a1, b1⟩
  · obtain ⟨k1, k2, k3⟩ := vx_keep h0 e1 hS hAX hf hL hF
    obtain ⟨t2, a1, b1⟩ := kx E ce q u t T'.heap (locs ++ L) e1.symm (by rw [← e2]; exact X'.warmed.alike) hp hb k1 k2 k3 (by rw [e1]; exact hce) hcv hcl T' rfl X'
    exact ⟨t2, st.trans a1, b1⟩
theorem vx_calld {S SX : Type} {post : UInt64 → S → Prop} {px : SX → Prop} {B : S → State → Prop} {BX : String → SX → State → Prop} {AX : Nat → Prop} (hr : vx_Run p l e R s m args below meth c H locs cells slots mc ms (F0 m pc ls st0) rest (va_Qd post B A1 a) (vx_X px BX AX) free) (hS : va_S A0 H0 H locs) (hA : ∀ q, q < H.size → A1 q → A0 q) (hf : ∀ q, free q → A0 q) (hAX : ∀ q, q < H.size → AX q → A0 q)
    (kx : ∀ (E : String) (ce : Cell) (q9 : Addr) (u : SX) (t : State) (H1 : Heap) (locs1 : List Loc), t.heap = H1 → s.vm.Alike t.vm → px u → BX E u t → H.size ≤ H1.size → (∀ q : Nat, q < H.size → ¬ AX q → H1[q]? = H[q]?) → va_S A0 H0 H1 locs1 → H1[q9]? = some ce → ce.vm = .none → s.vm.findClass E = some ce.cls → vx_W p l e R s m args below meth c H1 locs1 (cells + mc) (slots + ms) Q (F0 m pc ls rest) q9)
    (kk : ∀ (r : UInt64) (u : S) (t : State) (H1 : Heap) (locs1 : List Loc), t.heap = H1 → s.vm.Alike t.vm → post r u → B u t → H.size ≤ H1.size → (∀ q : Nat, q < H.size → ¬ A1 q → H1[q]? = H[q]?) → va_S A0 H0 H1 locs1 → W p l e R s m args below meth c H1 locs1 (cells + mc) (slots + ms) Q (F0 m (pc + 3) ls (.double r :: rest))) : W p l e R s m args below meth c H locs cells slots Q (F0 m pc ls st0) := by
  intro T hT X
  rcases hr T hT X with ⟨v, st₀, t, T', L, h0, X', hL, e1, e2, ⟨⟨r, u, hv, hp, hb⟩, hF⟩, st⟩ | ⟨q, st₀, t, T', L, E, ce, h0, X', hL, e1, e2, ⟨u, hp, hb, hF⟩, hce, hcv, hcl, st⟩
  · cases hv
    obtain ⟨k1, k2, k3⟩ := vx_keep h0 e1 hS hA hf hL hF
    obtain ⟨t2, a1, b1⟩ := kk r u t T'.heap (locs ++ L) e1.symm (by rw [← e2]; exact X'.warmed.alike) hp hb k1 k2 k3 T' rfl X'
    exact ⟨t2, st t2 a1, b1⟩
  · obtain ⟨k1, k2, k3⟩ := vx_keep h0 e1 hS hAX hf hL hF
    obtain ⟨t2, a1, b1⟩ := kx E ce q u t T'.heap (locs ++ L) e1.symm (by rw [← e2]; exact X'.warmed.alike) hp hb k1 k2 k3 (by rw [e1]; exact hce) hcv hcl T' rfl X'
    exact ⟨t2, st.trans a1, b1⟩
theorem vx_callv {S SX : Type} {post : S → Prop} {px : SX → Prop} {B : S → State → Prop} {BX : String → SX → State → Prop} {AX : Nat → Prop} (hr : vx_Run p l e R s m args below meth c H locs cells slots mc ms (F0 m pc ls st0) rest (va_Qv post B A1 a) (vx_X px BX AX) free) (hS : va_S A0 H0 H locs) (hA : ∀ q, q < H.size → A1 q → A0 q) (hf : ∀ q, free q → A0 q) (hAX : ∀ q, q < H.size → AX q → A0 q)
    (kx : ∀ (E : String) (ce : Cell) (q9 : Addr) (u : SX) (t : State) (H1 : Heap) (locs1 : List Loc), t.heap = H1 → s.vm.Alike t.vm → px u → BX E u t → H.size ≤ H1.size → (∀ q : Nat, q < H.size → ¬ AX q → H1[q]? = H[q]?) → va_S A0 H0 H1 locs1 → H1[q9]? = some ce → ce.vm = .none → s.vm.findClass E = some ce.cls → vx_W p l e R s m args below meth c H1 locs1 (cells + mc) (slots + ms) Q (F0 m pc ls rest) q9)
    (kk : ∀ (u : S) (t : State) (H1 : Heap) (locs1 : List Loc), t.heap = H1 → s.vm.Alike t.vm → post u → B u t → H.size ≤ H1.size → (∀ q : Nat, q < H.size → ¬ A1 q → H1[q]? = H[q]?) → va_S A0 H0 H1 locs1 → W p l e R s m args below meth c H1 locs1 (cells + mc) (slots + ms) Q (F0 m (pc + 3) ls (rest))) : W p l e R s m args below meth c H locs cells slots Q (F0 m pc ls st0) := by
  intro T hT X
  rcases hr T hT X with ⟨v, st₀, t, T', L, h0, X', hL, e1, e2, ⟨⟨u, hv, hp, hb⟩, hF⟩, st⟩ | ⟨q, st₀, t, T', L, E, ce, h0, X', hL, e1, e2, ⟨u, hp, hb, hF⟩, hce, hcv, hcl, st⟩
  · cases hv
    obtain ⟨k1, k2, k3⟩ := vx_keep h0 e1 hS hA hf hL hF
    obtain ⟨t2, a1, b1⟩ := kk u t T'.heap (locs ++ L) e1.symm (by rw [← e2]; exact X'.warmed.alike) hp hb k1 k2 k3 T' rfl X'
    exact ⟨t2, st t2 a1, b1⟩
  · obtain ⟨k1, k2, k3⟩ := vx_keep h0 e1 hS hAX hf hL hF
    obtain ⟨t2, a1, b1⟩ := kx E ce q u t T'.heap (locs ++ L) e1.symm (by rw [← e2]; exact X'.warmed.alike) hp hb k1 k2 k3 (by rw [e1]; exact hce) hcv hcl T' rfl X'
    exact ⟨t2, st.trans a1, b1⟩
/-- caught by the row x of this method's table; the rows ahead don't take it -/
theorem vx_catch {own name : String} {E : String} {ce : Cell} {q : Addr} (hown : s.vm.findClass own = some m.cls) (pre : List ExceptionTableEntry) (x : ExceptionTableEntry) (suf : List ExceptionTableEntry) (hsplit : c.exceptionTable.toList = pre ++ x :: suf)
    (hpass : ∀ z ∈ pre, covers z pc = false ∨ (z.catchType ≠ 0 ∧ ∃ nm : String, (Cond.classLink own z.catchType nm).before args s = true ∧ va_Nc E nm s)) (hx : covers x pc = true) (h0 : x.catchType ≠ 0)
    (hlink : (Cond.classLink own x.catchType name).before args s = true) (hcast : (Cond.castable E name).before args s = true) (hcell : H[q]? = some ce) (hv : ce.vm = .none) (hcl : s.vm.findClass E = some ce.cls)
    (kk : W p l e R s m args below meth c H locs cells slots Q (F0 m x.handlerPc ls [.ref q])) : vx_W p l e R s m args below meth c H locs cells slots Q (F0 m pc ls rest) q := by
  intro T hT X
  have hpl : e.platform.magicAccessors = ({} : Platform).magicAccessors := by rw [X.admits.platform]
  obtain ⟨c3, c4, hc3, hc4, hasg⟩ := Cond.castable_spec hcast
  cases Option.some.inj (hc3.symm.trans hcl)
  obtain ⟨c5, hc5, hcl5⟩ := Cond.classLink_spec hown hlink e.platform hpl
  cases Option.some.inj (hc4.symm.trans hc5)
  obtain ⟨vm', X', st⟩ := X.thenCaughtThrough q (g := F0 m pc ls rest) rfl (Steps.refl _) (by rw [hT]; exact hcell) (by rw [hv]; rfl) (by obtain ⟨k9, h9, -⟩ := Vm.findClass_spec hcl; exact ⟨k9, h9⟩) pre x suf hsplit
    (fun z hz => by
      rcases hpass z hz with h | ⟨hz0, nm, hl1, hn1⟩
      · exact Or.inl h
      · obtain ⟨c6, hc6, hcl6⟩ := Cond.classLink_spec hown hl1 e.platform hpl
        obtain ⟨a8, b8, h1, h2, h3⟩ := hn1
        cases Option.some.inj (h1.symm.trans hcl)
        cases Option.some.inj (h2.symm.trans hc6)
        exact Or.inr ⟨hz0, _, hcl6, h3⟩) hx (Or.inr ⟨h0, c4, hcl5, hasg⟩)
  obtain ⟨t, a1, b1⟩ := kk (T.setVm vm') hT X'
  exact ⟨t, st.trans a1, b1⟩
end Rows
section Ends
variable {p : Program} {l : Launch} {e : Env} {R : Room} {s : State} {m : MethodId} {args : Array Value} {below : List Frame} {meth : Method} {c : Code} {H : Heap} {locs : List Loc} {cells slots : Nat} {Q : State → Prop}
variable {mc ms : Nat} {free : Addr → Prop} {A0 A1 : Nat → Prop} {H0 : Heap} {a : Array Value} {ls : Array Slot} {st0 rest : List Value}
variable {Qc : Array Value → State → Outcome → State → Prop} {XC : String → State → State → Prop}
/-- what a body that may throw owes at its end -/
def vx_MQ (below : List Frame) (Qc : Array Value → State → Outcome → State → Prop) (XC : String → State → State → Prop) (a : Array Value) (s : State) (mc ms : Nat) (free : Addr → Prop) : State → Prop := fun t =>
  ∃ o, t.status = .running ∧ Ended t below o ∧ vx_Q Qc XC mc ms free a s o t
theorem vx_ret {g : JFrame} {mc ms : Nat} (k : W p l e R s m args below meth c H locs cells slots (MQ below Qc args s mc ms free) g) : W p l e R s m args below meth c H locs cells slots (vx_MQ below Qc XC args s mc ms free) g := by
  intro T hT X
  obtain ⟨t, a1, o, b1, b2, b3, b4⟩ := k T hT X
  exact ⟨t, a1, o, b1, b2, Or.inl ⟨b3, b4⟩⟩
/-- not caught here: it goes on to the caller -/
theorem vx_widen {g : JFrame} {q : Addr} {k n : Nat} (h1 : cells ≤ k) (h2 : slots ≤ n) (kk : vx_W p l e R s m args below meth c H locs k n Q g q) : vx_W p l e R s m args below meth c H locs cells slots Q g q := fun T hT X => kk T hT (stand_widen X h1 h2)
theorem vx_out {pc : Nat} {E : String} {ce : Cell} {q : Addr} {mc ms : Nat} (hout : ∀ x ∈ c.exceptionTable.toList, covers x pc = false) (hlocks : meth.locks = false) (hcell : H[q]? = some ce) (hv : ce.vm = .none) (hcl : s.vm.findClass E = some ce.cls)
    (hx : ∀ t : State, t.heap = H → s.vm.Alike t.vm → XC E s t) (hf : ∀ z ∈ locs, free z.base) (hc : cells ≤ mc) (hs : slots ≤ ms) :
    vx_W p l e R s m args below meth c H locs cells slots (vx_MQ below Qc XC args s mc ms free) (F0 m pc ls rest) q := by
  intro T hT X
  obtain ⟨st1, hrun, hend, hW, hsm⟩ := X.leaveThrown q (g := F0 m pc ls rest) rfl rfl rfl hout hlocks
  have hcell9 : (T.setFrames (.throwing q :: below)).heap[q]? = some ce := by
    show T.heap[q]? = some ce
    rw [hT]; exact hcell
  exact ⟨_, st1, .threw q, hrun, hend, Or.inr ⟨q, rfl, E, ce, locs, hx _ hT hW.alike, hcell9, hv, hcl, hW, hsm.mono hc hs, hf⟩⟩
theorem vx_frame {U : State} {k n : Nat} (h : s.sameButNew ({ U with vm := s.vm } : State) locs k n) : s.heap.size ≤ U.heap.size ∧ ∀ q : Nat, q < s.heap.size → (∀ z ∈ locs, z.base ≠ q) → U.heap[q]? = s.heap[q]? := by
  obtain ⟨-, h2, -, -, -, h6⟩ := h
  refine ⟨h2, fun q hq hz => ?_⟩
  obtain ⟨c9, e1, e2, e3, e4⟩ := h6 q _ (Array.getElem?_eq_getElem hq)
  have hs : c9.slots = (s.heap[q]).slots := Array.ext_getElem? fun i => e4 i fun hm => hz _ hm rfl
  have h9 : c9 = s.heap[q] := by
    rw [hs] at e2
    exact e2
  have e5 : U.heap[q]? = some c9 := e1
  rw [e5, h9, Array.getElem?_eq_getElem hq]
/-- the words of a throw but the four that speak of the heap -/
def vx_no (w : Cond) : Bool := decide (w ≠ .isRef (.static Bundle.tN "UNASSIGNED_STACK" Bundle.steD)) && decide (w ≠ .isRef (.static Bundle.tN "SUPPRESSED_SENTINEL" Bundle.listD)) && decide (w ≠ .laysStatic Bundle.tN "UNASSIGNED_STACK" Bundle.steD) && decide (w ≠ .laysStatic Bundle.tN "SUPPRESSED_SENTINEL" Bundle.listD)
def vx_at0 (own : String) (ic : Nat) (X : String) (names : List String) : List Cond := (Bundle.ownAtoms0 own ic X names).filter vx_no
def vx_atS (own : String) (ic : Nat) (X : String) (names : List String) : List Cond := (Bundle.ownAtoms own ic X names).filter vx_no
/-- a word that the tables alone decide, or a good one -/
def vx_ot (w : Cond) : Bool := w.onTables || goodWord w
theorem vx_ot_at {args a' : Array Value} {s U : State} {w : Cond} (hW : s.WarmedH U.vm) (hvm : s.vm = U.vm) (hg : vx_ot w = true) (h : w.before args s = true) : w.before a' U = true := by
  simp only [vx_ot, Bool.or_eq_true] at hg
  rcases hg with hg | hg
  · exact va_tabs hg hvm h
  · exact word_at hW (good_of_word hg) h
/-- a list's words: the good ones out of the method's own list, the others by premises of their own -/
theorem vx_hat {args : Array Value} {s : State} {L B : List Cond} (h1 : ∀ w ∈ L.filter goodWord, w.before args s = true) (h2 : ∀ w ∈ L.filter (fun w => !goodWord w), w ∈ B) (h3 : ∀ w ∈ B, w.before args s = true) : ∀ w ∈ L, w.before args s = true := by
  intro w hw
  by_cases g : goodWord w = true
  · exact h1 w (List.mem_filter.mpr ⟨hw, g⟩)
  · refine h3 w (h2 w (List.mem_filter.mpr ⟨hw, ?_⟩))
    show (!goodWord w) = true
    cases hgw : goodWord w
    · rfl
    · exact absurd hgw g
theorem vx_c {args : Array Value} {s : State} {w : Cond} {B : List Cond} (h : w.before args s = true) (t : ∀ w ∈ B, w.before args s = true) : ∀ w' ∈ w :: B, w'.before args s = true := fun w' h' => (List.mem_cons.mp h').elim (fun e => by rw [e]; exact h) (t w')
theorem vx_n {args : Array Value} {s : State} : ∀ w ∈ ([] : List Cond), w.before args s = true := fun _ h => nomatch h
theorem vx_own {args : Array Value} {s : State} {L : List Cond} (h1 : ∀ w ∈ L.filter vx_no, w.before args s = true)
    (hU : (Cond.isRef (.static Bundle.tN "UNASSIGNED_STACK" Bundle.steD)).before args s = true) (hN : (Cond.isRef (.static Bundle.tN "SUPPRESSED_SENTINEL" Bundle.listD)).before args s = true)
    (lU : (Cond.laysStatic Bundle.tN "UNASSIGNED_STACK" Bundle.steD).before args s = true) (lN : (Cond.laysStatic Bundle.tN "SUPPRESSED_SENTINEL" Bundle.listD).before args s = true) : ∀ w ∈ L, w.before args s = true := by
  intro w hw
  by_cases e1 : w = .isRef (.static Bundle.tN "UNASSIGNED_STACK" Bundle.steD)
  · rw [e1]; exact hU
  · by_cases e2 : w = .isRef (.static Bundle.tN "SUPPRESSED_SENTINEL" Bundle.listD)
    · rw [e2]; exact hN
    · by_cases e3 : w = .laysStatic Bundle.tN "UNASSIGNED_STACK" Bundle.steD
      · rw [e3]; exact lU
      · by_cases e4 : w = .laysStatic Bundle.tN "SUPPRESSED_SENTINEL" Bundle.listD
        · rw [e4]; exact lN
        · exact h1 w (List.mem_filter.mpr ⟨hw, by unfold vx_no; rw [decide_eq_true e1, decide_eq_true e2, decide_eq_true e3, decide_eq_true e4]; rfl⟩)
/-- where a static field lies, its class's statics cell in H -/
def vx_L (C n d : String) (A : Nat → Prop) (U : State) (H : Heap) : Prop := ∃ (c : ClassId) (k : Class) (i : Nat) (f : Field) (a : Nat) (cell : Cell), U.vm.findClass C = some c ∧ U.fieldFound? C n d = some (c, k, i, f) ∧ f.isStatic = true ∧ k.statics = some a ∧ H[a]? = some cell ∧ cell.vm.isStatics = true ∧ cell.cls = c ∧ f.slot < cell.slots.size ∧ k.staticTypes[f.slot]? = some f.type ∧ ¬ A a
theorem vx_L.moved {C n d : String} {A : Nat → Prop} {u U : State} {H : Heap} (hvm : u.vm.Alike U.vm) (h : vx_L C n d A u H) : vx_L C n d A U H := by
  obtain ⟨c, k, i, f, a, cell, h1, h2, h3, h4, h5, h6, h7, h8, h9, h10⟩ := h
  obtain ⟨k', hi', he⟩ := State.fieldFound?_setVm hvm h2
  exact ⟨c, k', i, f, a, cell, by rw [hvm.findClass]; exact h1, hi', h3, by rw [he]; exact h4, h5, h6, h7, h8, by rw [he]; exact h9, h10⟩
theorem vx_L.kept {C n d : String} {A : Nat → Prop} {U : State} {H H1 : Heap} (h : vx_L C n d A U H) (hq : ∀ a : Nat, a < H.size → ¬ A a → H1[a]? = H[a]?) : vx_L C n d A U H1 := by
  obtain ⟨c, k, i, f, a, cell, h1, h2, h3, h4, h5, h6, h7, h8, h9, h10⟩ := h
  exact ⟨c, k, i, f, a, cell, h1, h2, h3, h4, by rw [hq a (Array.getElem?_eq_some_iff.mp h5).1 h10]; exact h5, h6, h7, h8, h9, h10⟩
theorem vx_L.narrow {C n d : String} {A B : Nat → Prop} {U : State} {H : Heap} (h : vx_L C n d A U H) (hAB : ∀ q, B q → A q) : vx_L C n d B U H := by
  obtain ⟨c, k, i, f, a, cell, h1, h2, h3, h4, h5, h6, h7, h8, h9, h10⟩ := h
  exact ⟨c, k, i, f, a, cell, h1, h2, h3, h4, h5, h6, h7, h8, h9, fun z => h10 (hAB _ z)⟩
theorem vx_L.word {C n d : String} {A : Nat → Prop} {s : State} {args : Array Value} (h : vx_L C n d A s s.heap) : (Cond.laysStatic C n d).before args s = true := by
  obtain ⟨c, k, i, f, a, cell, h1, h2, h3, h4, h5, h6, h7, h8, h9, -⟩ := h
  show (Cond.laysStatic C n d).holds args s none s [] = true
  exact Cond.laysStatic_of h1 h2 h3 h4 h5 h6 h7 h8 h9
/-- .. and what it holds: null or some reference -/
def vx_Zq (C n d : String) (A : Nat → Prop) (U : State) (H : Heap) : Prop := va_Zq C n d A U H ∧ vx_L C n d A U H
theorem vx_Zq.moved {C n d : String} {A : Nat → Prop} {u U : State} {H : Heap} (hvm : u.vm.Alike U.vm) (h : vx_Zq C n d A u H) : vx_Zq C n d A U H := ⟨va_Zq.moved hvm h.1, vx_L.moved hvm h.2⟩
theorem vx_Zq.kept {C n d : String} {A : Nat → Prop} {U : State} {H H1 : Heap} (h : vx_Zq C n d A U H) (hq : ∀ a : Nat, a < H.size → ¬ A a → H1[a]? = H[a]?) : vx_Zq C n d A U H1 := ⟨va_Zq.kept h.1 hq, vx_L.kept h.2 hq⟩
theorem vx_Zq.narrow {C n d : String} {A B : Nat → Prop} {U : State} {H : Heap} (h : vx_Zq C n d A U H) (hAB : ∀ q, B q → A q) : vx_Zq C n d B U H := ⟨va_Zq.narrow h.1 hAB, vx_L.narrow h.2 hAB⟩
theorem vx_Zqof {args : Array Value} {s : State} {C n d : String} {A : Nat → Prop} (hl : (Cond.laysStatic C n d).before args s = true) (hini : (Cond.initialized C).before args s = true) (h : (Cond.isRef (.static C n d)).before args s = true) (hA : ∀ a : Nat, a < s.heap.size → ¬ A a) : vx_Zq C n d A s s.heap := by
  refine ⟨va_Zqof hl hini h hA, ?_⟩
  obtain ⟨c, k, i, f, a, cell, h1, h2, h3, h4, h5, h6, h7, h8, h9⟩ := Cond.laysStatic_spec hl
  exact ⟨c, k, i, f, a, cell, h1, h2, h3, h4, h5, h6, h7, h8, h9, hA a (Array.getElem?_eq_some_iff.mp h5).1⟩
theorem vx_isRef {C n d : String} {v : Value} {A : Nat → Prop} {s : State} {args : Array Value} (h : va_Z C n d v A s s.heap) (hv : v.isRef = true) : (Cond.isRef (.static C n d)).before args s = true := by
  obtain ⟨cf, kf, fi, f, a, cell, h1, h2, h3, h4, h5, h6, h7, -⟩ := h
  have he : (Term.static C n d).eval args s none [] s = some v := by
    simp [Term.eval, State.fieldNamed?, h1, h2, h4, h5, h6, h7]
  simp only [Cond.before, Cond.holds, Cond.value, he]
  cases v <;> simp_all [Value.isRef]
theorem vx_isRefq {C n d : String} {A : Nat → Prop} {s : State} {args : Array Value} (h : va_Zq C n d A s s.heap) : (Cond.isRef (.static C n d)).before args s = true := by
  rcases h with h | ⟨t, h⟩
  · exact vx_isRef h rfl
  · exact vx_isRef h rfl
/-- the same frame, seen from here: as if the method were called anew in this heap -/
theorem vx_rebase {T : State} (X : Stand p l e R s m args below meth c T locs cells slots) {R' : Room} (hf : R'.frames ≤ R.frames) (hl : R'.locals ≤ R.locals) (hc : cells + R'.cells ≤ R.cells) (hs : slots + R'.slots ≤ R.slots) :
    Stand p l e R' ((T.setVm s.vm).setFrames (.invoking m args :: below)) m args below meth c T [] 0 0 := by
  have htop : (T.setVm s.vm).topJava?.isSome := X.here.top
  have hF : ((T.setVm s.vm).setFrames (.invoking m args :: below)).frames = .invoking m args :: below := State.frames_setFrames _ (State.cur_lt_of_top htop)
  obtain ⟨g₀, hg0⟩ := Option.isSome_iff_exists.mp htop
  obtain ⟨r, hr⟩ := State.topJava?_eq_some.mp hg0
  have hl9 : e.platform.stackLimits (T.setVm s.vm).me = e.platform.stackLimits s.me := X.limits
  have hb9 : (T.setVm s.vm).me.stackBytes = s.me.stackBytes := X.bytes
  refine ⟨X.admits, X.cas, X.clock, hF, ?_, X.hears, X.method, X.code, X.here, X.tail, X.warmed, ?_, ?_, ?_⟩
  · have h := X.room
    have hU : ((T.setVm s.vm).setFrames (.invoking m args :: below)).localsInUse = s.localsInUse := by
      rw [State.localsInUse_invoking hF (meth := meth) (c := c) X.method X.code, State.localsInUse_invoking X.frames X.method X.code]
    simp only [State.hasRoom, Bool.and_eq_true, decide_eq_true_eq] at h ⊢
    obtain ⟨⟨⟨⟨h1, h2, h3, h4, h5, h6⟩, h7⟩, h8⟩, h9⟩ := h
    rw [X.frames, List.length_cons] at h2 h3
    have q1 := X.heapSize
    have q2 := X.used
    simp only [hF, hU, List.length_cons, State.stackLimits_setFrames, State.stackBytes_setFrames, hl9, hb9]
    refine ⟨⟨⟨⟨by omega, by omega, by omega, by omega, by omega, h6⟩, ?_⟩, ?_⟩, X.book⟩
    · show T.heap.size + R'.cells ≤ e.platform.maxCells
      omega
    · show T.slotsUsed + R'.slots ≤ e.platform.maxSlots
      omega
  · rw [State.stackLimits_setFrames]; rfl
  · rw [State.stackBytes_setFrames]; rfl
  · refine ⟨?_, Nat.le_refl _, Nat.le_refl _, ?_, ?_, fun a c9 h9 => ⟨c9, h9, rfl, rfl, fun _ _ => rfl⟩⟩
    · obtain ⟨t, ht, -⟩ := State.frames_cons hr
      show T.setVm s.vm = { ((T.setVm s.vm).setFrames (.invoking m args :: below)).setFrames (T.setVm s.vm).frames with heap := T.heap, slotsUsed := T.slotsUsed }
      rw [State.setFrames_setFrames, State.setFrames_self ht]
      rfl
    · show T.slotsUsed = T.slotsUsed + ((T.heap.toList.drop T.heap.size).map (·.slots.size)).sum
      rw [List.drop_eq_nil_of_le (Nat.le_of_eq Array.length_toList)]
      rfl
    · show ((T.heap.toList.drop T.heap.size).map (·.slots.size)).sum ≤ 0
      rw [List.drop_eq_nil_of_le (Nat.le_of_eq Array.length_toList)]
      exact Nat.le_refl _
/-- 'throw new E()': new; dup; invokespecial; athrow -/
theorem vx_throw0 {cc : ByteArray} {pc : Nat} (hexec : p.tables.exec = Jvm.exec) (hb : c.code = cc) (hl : l.stackTraces = false) {own cls : String} {names : List String} {ik ic mc ms : Nat} {A : Nat → Prop}
    (hown : s.vm.findClass own = some m.cls) (hcls : Bundle.fit cls = true) (hnames : ∀ n ∈ names, Bundle.fit n = true)
    (hk : (Cond.classLink own ik cls).before args s = true) (hini : (Cond.initialized cls).before args s = true) (hat : ∀ w ∈ vx_at0 own ic cls names, w.before args s = true)
    (hgood : ∀ w ∈ Cond.classLink own ik cls :: Cond.initialized cls :: vx_at0 own ic cls names, vx_ot w = true)
    (hU : vx_Zq Bundle.tN "UNASSIGNED_STACK" Bundle.steD A s s.heap) (hN : vx_Zq Bundle.tN "SUPPRESSED_SENTINEL" Bundle.listD A s s.heap) (hS : va_S A s.heap H locs) (hsize : ls.size = c.maxLocals)
    (d0 : decode cc pc = .ok (.new ik, 3)) (d3 : decode cc (pc + 3) = .ok (.dup, 1)) (d4 : decode cc (pc + 4) = .ok (.invokespecial ic, 3)) (d7 : decode cc (pc + 7) = .ok (.athrow, 1))
    (hout : ∀ x ∈ c.exceptionTable.toList, covers x (pc + 7) = false)
    (hRframes : names.length + 3 < R.frames) (hRlocals : (rest.map fun v => v.category).sum + (13 * (names.length + 1) + 42) ≤ R.locals) (hRcells : cells + 1 ≤ R.cells) (hRslots : slots + 6 ≤ R.slots) (hlocks : meth.locks = false)
    (hx : ∀ t : State, s.vm.Alike t.vm → H.size ≤ t.heap.size → (∀ q : Nat, q < H.size → t.heap[q]? = H[q]?) → XC cls s t)
    (hf : ∀ z ∈ locs, free z.base) (hc : cells + 1 ≤ mc) (hs : slots + 6 ≤ ms) :
    W p l e R s m args below meth c H locs cells slots (vx_MQ below Qc XC args s mc ms free) (F0 m pc ls rest) := by
  intro T hT X
  have htr : e.platform.stackTraces = false := (show e.platform.stackTraces = l.stackTraces by rw [X.admits.platform]).trans hl
  have Y := vx_rebase X (R' := { frames := R.frames, locals := R.locals, cells := 1, slots := 6 }) (Nat.le_refl _) (Nat.le_refl _) hRcells hRslots
  obtain ⟨s', hA⟩ : ∃ z, z = (T.setVm s.vm).setFrames (.invoking m args :: below) := ⟨_, rfl⟩
  rw [← hA] at Y
  have hvm : s'.vm = s.vm := by rw [hA]; rfl
  have hhp : s'.heap = H := by rw [hA]; exact hT
  have hW0 : s.WarmedH s'.vm := by rw [hvm]; exact State.WarmedH.refl s
  have hat' : ∀ w ∈ vx_at0 own ic cls names, w.before args s' = true := fun w hw => vx_ot_at hW0 hvm.symm (hgood w (List.mem_cons_of_mem _ (List.mem_cons_of_mem _ hw))) (hat w hw)
  have hk' : (Cond.classLink own ik cls).before args s' = true := vx_ot_at hW0 hvm.symm (hgood _ List.mem_cons_self) hk
  have hini' : (Cond.initialized cls).before args s' = true := vx_ot_at hW0 hvm.symm (hgood _ (List.mem_cons_of_mem _ List.mem_cons_self)) hini
  have hU' : vx_Zq Bundle.tN "UNASSIGNED_STACK" Bundle.steD A s' s'.heap := by rw [hhp]; exact vx_Zq.moved hW0.alike (hU.kept hS.2.1)
  have hN' : vx_Zq Bundle.tN "SUPPRESSED_SENTINEL" Bundle.listD A s' s'.heap := by rw [hhp]; exact vx_Zq.moved hW0.alike (hN.kept hS.2.1)
  have h : ∀ w ∈ Bundle.ownAtoms0 own ic cls names, w.before args s' = true := vx_own hat' (vx_isRefq hU'.1) (vx_isRefq hN'.1) hU'.2.word hN'.2.word
  have hown' : s'.vm.findClass own = some m.cls := by rw [hvm]; exact hown
  have hins : (Cond.instantiable cls 6).before args s' = true := h _ (by simp [Bundle.ownAtoms0])
  obtain ⟨vm₁, cX, kX, hfX, hkX, -, -, X₁, st1⟩ := Y.newCold hexec (own := own) (C := cls) (index := ik) (n := 6) hown' hk' hins hini'
    (g := F0 m pc ls rest) rfl (by rw [hb]; exact d0) (Nat.le_refl _) (Nat.le_refl _)
  generalize hT1 : (T.setVm vm₁).pushCell { cls := cX, slots := kX.instanceTypes.map defaultValue, vm := .none } = T1 at X₁ st1
  have hcat : (Value.ref T.heap.size).category = 1 := rfl
  have hcellA : T1.heap[T.heap.size]? = some (freshCell cX kX) := by rw [← hT1]; exact State.heap_pushCell_size _ _
  have d3' : decode c.code (pc + 3) = .ok (.dup, 1) := by rw [hb]; exact d3
  obtain ⟨U, hsteps, hrun, hend, hW, hsame, ce, hce, hO⟩ := X₁.ctorThrow0 hexec htr (own := own) (cls := cls) (names := names) (ic := ic) hown' hcls hnames h (fun x hx => nomatch hx) hfX hkX hcellA (by rw [hhp, hT]; exact Nat.le_refl _)
    (g := { method := m, pc := pc + 4, locals := ls, stack := .ref T.heap.size :: .ref T.heap.size :: rest, locked := none }) rfl hsize rfl rfl (rest := rest) rfl
    (by rw [hb]; exact d4) (by rw [hb]; exact d7) hout hRframes (by simp only [List.map_cons, List.sum_cons, hcat]; omega) hlocks
  obtain ⟨f1, f2⟩ := vx_frame hsame
  rw [hhp] at f1 f2
  have hWs : s.WarmedH U.vm := State.WarmedH.trans hW0 hW
  have hcl : s.vm.findClass cls = some ce.cls := by
    have h9 := hO.cls
    rw [hvm] at h9
    exact h9
  have hall : s.sameButNew ({ U with vm := s.vm } : State) locs mc ms := by
    subst hA
    obtain ⟨e1, e2⟩ := hsame
    rw [State.setFrames_setFrames] at e1
    have h2 : (T.setVm s.vm).sameButNew ({ U with vm := s.vm } : State) [] (0 + 1) (0 + 6) := ⟨e1, e2⟩
    have h3 := X.same.trans h2
    rw [List.append_nil] at h3
    exact h3.mono hc hs
  refine ⟨U, ?_, .threw T.heap.size, hrun, hend, Or.inr ⟨T.heap.size, rfl, cls, ce, locs, hx U hWs.alike f1 (fun q hq => f2 q hq (fun z hz => nomatch hz)), hce, hO.vm, hcl, hWs, hall, hf⟩⟩
  refine st1 _ ?_
  show Steps p.tables e below (T1.setTop { method := m, pc := pc + 3, locals := ls, stack := .ref T.heap.size :: rest, locked := none }) _
  jvm_step X₁.here [X₁.here.top, hexec, d3', Value.category]
  exact hsteps
/-- 'throw new E("text")': new; dup; ldc; invokespecial; athrow -/
theorem vx_throwS {cc : ByteArray} {pc : Nat} (hexec : p.tables.exec = Jvm.exec) (hb : c.code = cc) (hl : l.stackTraces = false) {own cls text : String} {names : List String} {ik is ic mc ms sa : Nat} {A : Nat → Prop}
    (hown : s.vm.findClass own = some m.cls) (hcls : Bundle.fit cls = true) (hnames : ∀ n ∈ names, Bundle.fit n = true)
    (hk : (Cond.classLink own ik cls).before args s = true) (hini : (Cond.initialized cls).before args s = true) (hstr : vk_R own is text sa s) (hat : ∀ w ∈ vx_atS own ic cls names, w.before args s = true)
    (hgood : ∀ w ∈ Cond.classLink own ik cls :: Cond.initialized cls :: vx_atS own ic cls names, vx_ot w = true)
    (hU : vx_Zq Bundle.tN "UNASSIGNED_STACK" Bundle.steD A s s.heap) (hN : vx_Zq Bundle.tN "SUPPRESSED_SENTINEL" Bundle.listD A s s.heap) (hS : va_S A s.heap H locs) (hsize : ls.size = c.maxLocals)
    (d0 : decode cc pc = .ok (.new ik, 3)) (d3 : decode cc (pc + 3) = .ok (.dup, 1)) (d4 : decode cc (pc + 4) = .ok (.ldc is, 2)) (d6 : decode cc (pc + 6) = .ok (.invokespecial ic, 3)) (d9 : decode cc (pc + 9) = .ok (.athrow, 1))
    (hout : ∀ x ∈ c.exceptionTable.toList, covers x (pc + 9) = false)
    (hRframes : names.length + 3 < R.frames) (hRlocals : (rest.map fun v => v.category).sum + (13 * (names.length + 1) + 43) ≤ R.locals) (hRcells : cells + 1 ≤ R.cells) (hRslots : slots + 6 ≤ R.slots) (hlocks : meth.locks = false)
    (hx : ∀ t : State, s.vm.Alike t.vm → H.size ≤ t.heap.size → (∀ q : Nat, q < H.size → t.heap[q]? = H[q]?) → XC cls s t)
    (hf : ∀ z ∈ locs, free z.base) (hc : cells + 1 ≤ mc) (hs : slots + 6 ≤ ms) :
    W p l e R s m args below meth c H locs cells slots (vx_MQ below Qc XC args s mc ms free) (F0 m pc ls rest) := by
  intro T hT X
  have htr : e.platform.stackTraces = false := (show e.platform.stackTraces = l.stackTraces by rw [X.admits.platform]).trans hl
  have Y := vx_rebase X (R' := { frames := R.frames, locals := R.locals, cells := 1, slots := 6 }) (Nat.le_refl _) (Nat.le_refl _) hRcells hRslots
  obtain ⟨s', hA⟩ : ∃ z, z = (T.setVm s.vm).setFrames (.invoking m args :: below) := ⟨_, rfl⟩
  rw [← hA] at Y
  have hvm : s'.vm = s.vm := by rw [hA]; rfl
  have hhp : s'.heap = H := by rw [hA]; exact hT
  have hW0 : s.WarmedH s'.vm := by rw [hvm]; exact State.WarmedH.refl s
  have hat' : ∀ w ∈ vx_atS own ic cls names, w.before args s' = true := fun w hw => vx_ot_at hW0 hvm.symm (hgood w (List.mem_cons_of_mem _ (List.mem_cons_of_mem _ hw))) (hat w hw)
  have hk' : (Cond.classLink own ik cls).before args s' = true := vx_ot_at hW0 hvm.symm (hgood _ List.mem_cons_self) hk
  have hini' : (Cond.initialized cls).before args s' = true := vx_ot_at hW0 hvm.symm (hgood _ (List.mem_cons_of_mem _ List.mem_cons_self)) hini
  have hU' : vx_Zq Bundle.tN "UNASSIGNED_STACK" Bundle.steD A s' s'.heap := by rw [hhp]; exact vx_Zq.moved hW0.alike (hU.kept hS.2.1)
  have hN' : vx_Zq Bundle.tN "SUPPRESSED_SENTINEL" Bundle.listD A s' s'.heap := by rw [hhp]; exact vx_Zq.moved hW0.alike (hN.kept hS.2.1)
  have h : ∀ w ∈ Bundle.ownAtoms own ic cls names, w.before args s' = true := vx_own hat' (vx_isRefq hU'.1) (vx_isRefq hN'.1) hU'.2.word hN'.2.word
  have hown' : s'.vm.findClass own = some m.cls := by rw [hvm]; exact hown
  have hins : (Cond.instantiable cls 6).before args s' = true := h _ (by simp [Bundle.ownAtoms])
  obtain ⟨vm₁, cX, kX, hfX, hkX, -, -, X₁, st1⟩ := Y.newCold hexec (own := own) (C := cls) (index := ik) (n := 6) hown' hk' hins hini'
    (g := F0 m pc ls rest) rfl (by rw [hb]; exact d0) (Nat.le_refl _) (Nat.le_refl _)
  generalize hT1 : (T.setVm vm₁).pushCell { cls := cX, slots := kX.instanceTypes.map defaultValue, vm := .none } = T1 at X₁ st1
  have hcat : (Value.ref T.heap.size).category = 1 := rfl
  have hcellA : T1.heap[T.heap.size]? = some (freshCell cX kX) := by rw [← hT1]; exact State.heap_pushCell_size _ _
  have d3' : decode c.code (pc + 3) = .ok (.dup, 1) := by rw [hb]; exact d3
  have d4' : decode c.code (pc + 4) = .ok (.ldc is, 2) := by rw [hb]; exact d4
  have hstr' : vk_R own is text sa s' := vk_R.warm hW0 hstr
  obtain ⟨U, hsteps, hrun, hend, hW, hsame, ce, hce, hO⟩ := X₁.ctorThrowS hexec htr (own := own) (cls := cls) (names := names) (ic := ic) hown' hcls hnames h (fun x hx => nomatch hx) hfX hkX hcellA (by rw [hhp, hT]; exact Nat.le_refl _) (msg := .ref sa) rfl
    (g := { method := m, pc := pc + 6, locals := ls, stack := .ref sa :: .ref T.heap.size :: .ref T.heap.size :: rest, locked := none }) rfl hsize rfl rfl (rest := rest) rfl
    (by rw [hb]; exact d6) (by rw [hb]; exact d9) hout hRframes (by simp only [List.map_cons, List.sum_cons, hcat]; omega) hlocks
  obtain ⟨f1, f2⟩ := vx_frame hsame
  rw [hhp] at f1 f2
  have hWs : s.WarmedH U.vm := State.WarmedH.trans hW0 hW
  have hcl : s.vm.findClass cls = some ce.cls := by
    have h9 := hO.cls
    rw [hvm] at h9
    exact h9
  have hall : s.sameButNew ({ U with vm := s.vm } : State) locs mc ms := by
    subst hA
    obtain ⟨e1, e2⟩ := hsame
    rw [State.setFrames_setFrames] at e1
    have h2 : (T.setVm s.vm).sameButNew ({ U with vm := s.vm } : State) [] (0 + 1) (0 + 6) := ⟨e1, e2⟩
    have h3 := X.same.trans h2
    rw [List.append_nil] at h3
    exact h3.mono hc hs
  refine ⟨U, ?_, .threw T.heap.size, hrun, hend, Or.inr ⟨T.heap.size, rfl, cls, ce, locs, hx U hWs.alike f1 (fun q hq => f2 q hq (fun z hz => nomatch hz)), hce, hO.vm, hcl, hWs, hall, hf⟩⟩
  refine st1 _ ?_
  show Steps p.tables e below (T1.setTop { method := m, pc := pc + 3, locals := ls, stack := .ref T.heap.size :: rest, locked := none }) _
  jvm_step X₁.here [X₁.here.top, hexec, d3', Value.category]
  exact X₁.ldcString hexec (own := own) (text := text) (index := is) (a := sa) hown' hstr'.1 hstr'.2
    (g := { method := m, pc := pc + 4, locals := ls, stack := .ref T.heap.size :: .ref T.heap.size :: rest, locked := none }) rfl d4' _ hsteps
/-- 'throw new E("text")', the text by a wide index -/
theorem vx_throwSW {cc : ByteArray} {pc : Nat} (hexec : p.tables.exec = Jvm.exec) (hb : c.code = cc) (hl : l.stackTraces = false) {own cls text : String} {names : List String} {ik is ic mc ms sa : Nat} {A : Nat → Prop}
    (hown : s.vm.findClass own = some m.cls) (hcls : Bundle.fit cls = true) (hnames : ∀ n ∈ names, Bundle.fit n = true)
    (hk : (Cond.classLink own ik cls).before args s = true) (hini : (Cond.initialized cls).before args s = true) (hstr : vk_R own is text sa s) (hat : ∀ w ∈ vx_atS own ic cls names, w.before args s = true)
    (hgood : ∀ w ∈ Cond.classLink own ik cls :: Cond.initialized cls :: vx_atS own ic cls names, vx_ot w = true)
    (hU : vx_Zq Bundle.tN "UNASSIGNED_STACK" Bundle.steD A s s.heap) (hN : vx_Zq Bundle.tN "SUPPRESSED_SENTINEL" Bundle.listD A s s.heap) (hS : va_S A s.heap H locs) (hsize : ls.size = c.maxLocals)
    (d0 : decode cc pc = .ok (.new ik, 3)) (d3 : decode cc (pc + 3) = .ok (.dup, 1)) (d4 : decode cc (pc + 4) = .ok (.ldc_w is, 3)) (d7 : decode cc (pc + 7) = .ok (.invokespecial ic, 3)) (d10 : decode cc (pc + 10) = .ok (.athrow, 1))
    (hout : ∀ x ∈ c.exceptionTable.toList, covers x (pc + 10) = false)
    (hRframes : names.length + 3 < R.frames) (hRlocals : (rest.map fun v => v.category).sum + (13 * (names.length + 1) + 43) ≤ R.locals) (hRcells : cells + 1 ≤ R.cells) (hRslots : slots + 6 ≤ R.slots) (hlocks : meth.locks = false)
    (hx : ∀ t : State, s.vm.Alike t.vm → H.size ≤ t.heap.size → (∀ q : Nat, q < H.size → t.heap[q]? = H[q]?) → XC cls s t)
    (hf : ∀ z ∈ locs, free z.base) (hc : cells + 1 ≤ mc) (hs : slots + 6 ≤ ms) :
    W p l e R s m args below meth c H locs cells slots (vx_MQ below Qc XC args s mc ms free) (F0 m pc ls rest) := by
  intro T hT X
  have htr : e.platform.stackTraces = false := (show e.platform.stackTraces = l.stackTraces by rw [X.admits.platform]).trans hl
  have Y := vx_rebase X (R' := { frames := R.frames, locals := R.locals, cells := 1, slots := 6 }) (Nat.le_refl _) (Nat.le_refl _) hRcells hRslots
  obtain ⟨s', hA⟩ : ∃ z, z = (T.setVm s.vm).setFrames (.invoking m args :: below) := ⟨_, rfl⟩
  rw [← hA] at Y
  have hvm : s'.vm = s.vm := by rw [hA]; rfl
  have hhp : s'.heap = H := by rw [hA]; exact hT
  have hW0 : s.WarmedH s'.vm := by rw [hvm]; exact State.WarmedH.refl s
  have hat' : ∀ w ∈ vx_atS own ic cls names, w.before args s' = true := fun w hw => vx_ot_at hW0 hvm.symm (hgood w (List.mem_cons_of_mem _ (List.mem_cons_of_mem _ hw))) (hat w hw)
  have hk' : (Cond.classLink own ik cls).before args s' = true := vx_ot_at hW0 hvm.symm (hgood _ List.mem_cons_self) hk
  have hini' : (Cond.initialized cls).before args s' = true := vx_ot_at hW0 hvm.symm (hgood _ (List.mem_cons_of_mem _ List.mem_cons_self)) hini
  have hU' : vx_Zq Bundle.tN "UNASSIGNED_STACK" Bundle.steD A s' s'.heap := by rw [hhp]; exact vx_Zq.moved hW0.alike (hU.kept hS.2.1)
  have hN' : vx_Zq Bundle.tN "SUPPRESSED_SENTINEL" Bundle.listD A s' s'.heap := by rw [hhp]; exact vx_Zq.moved hW0.alike (hN.kept hS.2.1)
  have h : ∀ w ∈ Bundle.ownAtoms own ic cls names, w.before args s' = true := vx_own hat' (vx_isRefq hU'.1) (vx_isRefq hN'.1) hU'.2.word hN'.2.word
  have hown' : s'.vm.findClass own = some m.cls := by rw [hvm]; exact hown
  have hins : (Cond.instantiable cls 6).before args s' = true := h _ (by simp [Bundle.ownAtoms])
  obtain ⟨vm₁, cX, kX, hfX, hkX, -, -, X₁, st1⟩ := Y.newCold hexec (own := own) (C := cls) (index := ik) (n := 6) hown' hk' hins hini'
    (g := F0 m pc ls rest) rfl (by rw [hb]; exact d0) (Nat.le_refl _) (Nat.le_refl _)
  generalize hT1 : (T.setVm vm₁).pushCell { cls := cX, slots := kX.instanceTypes.map defaultValue, vm := .none } = T1 at X₁ st1
  have hcat : (Value.ref T.heap.size).category = 1 := rfl
  have hcellA : T1.heap[T.heap.size]? = some (freshCell cX kX) := by rw [← hT1]; exact State.heap_pushCell_size _ _
  have d3' : decode c.code (pc + 3) = .ok (.dup, 1) := by rw [hb]; exact d3
  have d4' : decode c.code (pc + 4) = .ok (.ldc_w is, 3) := by rw [hb]; exact d4
  have hstr' : vk_R own is text sa s' := vk_R.warm hW0 hstr
  obtain ⟨U, hsteps, hrun, hend, hW, hsame, ce, hce, hO⟩ := X₁.ctorThrowS hexec htr (own := own) (cls := cls) (names := names) (ic := ic) hown' hcls hnames h (fun x hx => nomatch hx) hfX hkX hcellA (by rw [hhp, hT]; exact Nat.le_refl _) (msg := .ref sa) rfl
    (g := { method := m, pc := pc + 7, locals := ls, stack := .ref sa :: .ref T.heap.size :: .ref T.heap.size :: rest, locked := none }) rfl hsize rfl rfl (rest := rest) rfl
    (by rw [hb]; exact d7) (by rw [hb]; exact d10) hout hRframes (by simp only [List.map_cons, List.sum_cons, hcat]; omega) hlocks
  obtain ⟨f1, f2⟩ := vx_frame hsame
  rw [hhp] at f1 f2
  have hWs : s.WarmedH U.vm := State.WarmedH.trans hW0 hW
  have hcl : s.vm.findClass cls = some ce.cls := by
    have h9 := hO.cls
    rw [hvm] at h9
    exact h9
  have hall : s.sameButNew ({ U with vm := s.vm } : State) locs mc ms := by
    subst hA
    obtain ⟨e1, e2⟩ := hsame
    rw [State.setFrames_setFrames] at e1
    have h2 : (T.setVm s.vm).sameButNew ({ U with vm := s.vm } : State) [] (0 + 1) (0 + 6) := ⟨e1, e2⟩
    have h3 := X.same.trans h2
    rw [List.append_nil] at h3
    exact h3.mono hc hs
  refine ⟨U, ?_, .threw T.heap.size, hrun, hend, Or.inr ⟨T.heap.size, rfl, cls, ce, locs, hx U hWs.alike f1 (fun q hq => f2 q hq (fun z hz => nomatch hz)), hce, hO.vm, hcl, hWs, hall, hf⟩⟩
  refine st1 _ ?_
  show Steps p.tables e below (T1.setTop { method := m, pc := pc + 3, locals := ls, stack := .ref T.heap.size :: rest, locked := none }) _
  jvm_step X₁.here [X₁.here.top, hexec, d3', Value.category]
  exact X₁.ldcStringW hexec (own := own) (text := text) (index := is) (a := sa) hown' hstr'.1 hstr'.2
    (g := { method := m, pc := pc + 4, locals := ls, stack := .ref T.heap.size :: .ref T.heap.size :: rest, locked := none }) rfl d4' _ hsteps
end Ends
section Bodies
variable {l : Launch}
theorem vx_ofW {y : MethodName} {ws ws' : List Cond} {rm : Room} {Pc : Array Value → State → Prop} {Qc : Array Value → State → Outcome → State → Prop} {XC : String → State → State → Prop} {mc ms : Nat} {free : Addr → Prop} {cc : ByteArray} {maxL : Nat} {ret : Option FieldType}
    (hy : plainName y.cls = true) (hw : ws = Cond.code y cc maxL ret :: ws')
    (body : ∀ p e s m args below meth c s₁, BodyLoose p l y (headSpec ws rm) cc maxL ret e s m args below meth c s₁ → c.maxLocals = maxL → (∀ x ∈ c.exceptionTable.toList, False) → Pc args s →
      W p l e (headSpec ws rm).room s m args below meth c s.heap [] 0 0 (vx_MQ below Qc XC args s mc ms free) (entryFrame m args maxL)) : vx_Met l y ws rm Pc Qc XC mc ms free := by
  refine MetFree.of_bodyS (code := cc) (maxLocals := maxL) (ret := ret) hy ?_ ?_
  · intro args s m h hn
    obtain ⟨meth, c, h1, h2, h3, h4, h5, h6, -, -⟩ := Cond.code_spec hn (atoms_spec (ws := ws) h _ (by rw [hw]; exact List.mem_cons_self))
    exact ⟨meth, c, h1, h2, h3, h4, h5, h6⟩
  · intro p e s m args below meth c s₁ B hml hP _
    have hh0 : s₁.heap = s.heap := by rw [B.state]; rfl
    have ht : ∀ x ∈ c.exceptionTable.toList, False := by
      obtain ⟨meth9, c9, h1, h2, -, -, -, -, h7, -⟩ := Cond.code_spec B.named (atoms_spec (ws := ws) B.pre _ (by rw [hw]; exact List.mem_cons_self))
      cases Option.some.inj (h1.symm.trans B.method)
      cases Option.some.inj (h2.symm.trans (Stand.of_body B).code)
      intro x hx
      rw [Array.isEmpty_iff.mp h7] at hx
      cases hx
    obtain ⟨t, a1, o, b1, b2, b3⟩ := body p e s m args below meth c s₁ B hml ht hP s₁ hh0 (Stand.of_body B)
    exact ⟨t, o, a1, b1, b2, b3⟩
/-- the table of a body with handlers -/
theorem vx_table {p : Program} {x y : MethodName} {S : Spec} {cc bytes : ByteArray} {maxL maxL' : Nat} {ret ret' : Option FieldType} {e : Env} {s s₁ : State} {m : MethodId} {args : Array Value} {below : List Frame} {meth : Method} {c : Code} {hh : List (Nat × Nat × Nat × Nat)}
    (B : BodyLoose p l y S cc maxL ret e s m args below meth c s₁) (h : (Cond.codeWith y bytes maxL' ret' hh).before args s = true) : c.exceptionTable.toList = tableOf hh := by
  obtain ⟨m9, meth9, c9, hn9, h1, h2, -, -, h6, -⟩ := Cond.codeWith_spec h
  cases Option.some.inj (hn9.symm.trans B.named)
  cases Option.some.inj (h1.symm.trans B.method)
  cases Option.some.inj (h2.symm.trans (Stand.of_body B).code)
  rw [← h6, table_eq]
end Bodies
end VXA
/-! ===== END ===== -/
/-! ===== BEGIN a static call of a method with an exception table ===== -/
section VXS
variable {p : Program} {l : Launch} {e : Env} {R : Room} {s : State} {m : MethodId} {args : Array Value} {below : List Frame} {meth : Method} {c : Code} {T : State} {H : Heap} {locs : List Loc} {cells slots : Nat}
abbrev vx_CSW (R : Room) (s : State) (args : Array Value) (own : String) (index : Nat) (y : MethodName) (bytes : ByteArray) (maxL : Nat) (ret : Option FieldType) (hh : List (Nat × Nat × Nat × Nat)) (ws : List Cond) (rm : Room) (mc ms n : Nat) : Prop :=
  (rm.cells = mc ∧ rm.slots = ms ∧ rm.frames + 1 ≤ R.frames ∧ 8 + (maxL + 11) + rm.locals ≤ R.locals ∧ (∀ w ∈ ws, ∀ (a' : Array Value) (U : State), s.WarmedH U.vm → w.before a' U = true) ∧ Cond.codeWith y bytes maxL ret hh ∈ ws) ∧
  (Cond.codeWith y bytes maxL ret hh).before args s = true ∧ (Cond.initialized y.cls).before args s = true ∧ (y.cls ≠ "java/lang/invoke/MethodHandle" ∧ y.cls ≠ "java/lang/invoke/VarHandle") ∧
  (∀ sig, parseMethodDescriptor y.desc = some sig → n = sig.parameters.length) ∧ (Cond.methodLink own index y).before args s = true ∧ (Cond.static y).before args s = true
theorem vx_cwSW {own : String} {index maxL mc ms : Nat} {y : MethodName} {bytes : ByteArray} {ret : Option FieldType} {hh : List (Nat × Nat × Nat × Nat)} {Ts ws ws' : List Cond} {rm : Room} (n : Nat) (ht : ∀ w ∈ Ts, w.before args s = true) (hT : GoodIn Ts (va_wsS own index y ws)) (hw : ws = Cond.codeWith y bytes maxL ret hh :: ws') (hrc : rm.cells = mc) (hrs : rm.slots = ms)
    (hd : y.cls ≠ "java/lang/invoke/MethodHandle" ∧ y.cls ≠ "java/lang/invoke/VarHandle" ∧ (parseMethodDescriptor y.desc).map (fun d => d.parameters.length) = some n) (hR : rm.frames + 1 ≤ R.frames ∧ 8 + (maxL + 11) + rm.locals ≤ R.locals) :
    vx_CSW R s args own index y bytes maxL ret hh ws rm mc ms n := by
  have ok : ∀ w ∈ va_wsS own index y ws, w.before args s = true := fun w h => ht w (hT w h).1
  have hG : GoodIn Ts ws := fun w h => hT w (by unfold va_wsS; exact List.mem_append_right _ h)
  have hc : Cond.codeWith y bytes maxL ret hh ∈ ws := by rw [hw]; exact List.mem_cons_self
  refine ⟨⟨hrc, hrs, hR.1, hR.2, pay_in ht hG, hc⟩, ht _ (hG _ hc).1, ok _ (by simp [va_wsS]), ⟨hd.1, hd.2.1⟩, fun sig h => ?_, ok _ (by simp [va_wsS]), ok _ (by simp [va_wsS])⟩
  have h2 := hd.2.2
  rw [h] at h2
  exact (Option.some.inj h2).symm
theorem vx_callSW (X : Stand p l e R s m args below meth c T locs cells slots) (hexec : p.tables.exec = Jvm.exec) {own : String} {index : Nat} {y : MethodName} {bytes : ByteArray} {maxL : Nat} {ret : Option FieldType} {hh : List (Nat × Nat × Nat × Nat)}
    (hown : s.vm.findClass own = some m.cls) (hlink : (Cond.methodLink own index y).before args s = true) (hstat : (Cond.static y).before args s = true) (hinit : (Cond.initialized y.cls).before args s = true)
    (hcode : (Cond.codeWith y bytes maxL ret hh).before args s = true) (hy : y.cls ≠ "java/lang/invoke/MethodHandle" ∧ y.cls ≠ "java/lang/invoke/VarHandle")
    {W9 : Nat} {Pre : Pt → Array Value → Prop} {Post : Pt → Array Value → Option Value → Pt → Prop} (hK : Back l R p e below s args y 3 W9 Pre Post)
    {g : JFrame} (hg : g.method = m) (hsize : g.locals.size = c.maxLocals) {argsL rest : List Value} (hlen : ∀ sig, parseMethodDescriptor y.desc = some sig → argsL.length = sig.parameters.length)
    (hstack : g.stack = argsL.reverse ++ rest) (hW : 2 * g.monitorRoom + (rest.map fun v => v.category).sum ≤ W9) (hdg : decode c.code g.pc = .ok (.invokestatic index, 3))
    (hpre : ∀ vm₁, s.WarmedH vm₁ → Pre ⟨T.setVm vm₁, locs, cells, slots⟩ argsL.toArray) :
    ∃ (v : Option Value) (vm₁ : Vm) (B : Pt), s.WarmedH vm₁ ∧ Stand p l e R s m args below meth c B.U B.locs B.cells B.slots ∧ Post ⟨T.setVm vm₁, locs, cells, slots⟩ argsL.toArray v B ∧
      ∀ target, Steps p.tables e below (B.U.setTop { g with pc := g.pc + 3, stack := v.toList ++ rest }) target → Steps p.tables e below (T.setTop g) target := by
  obtain ⟨mk, methM, cM, hnamed, hmethM, -, -, -, -, -, -, hsigM⟩ := Cond.codeWith_spec hcode
  have hstatic : methM.isStatic = true := Cond.static_spec hnamed hmethM hstat
  obtain ⟨kP, hkP, -⟩ := className_of_methodNamed hnamed
  have hinitP : kP.init = .initialized := Cond.initialized_spec (findClass_of_methodNamed hnamed) hkP hinit
  obtain ⟨vm₁, X₁, hstep₁⟩ := X.invokestatic hexec hown hlink hnamed hmethM hstatic hkP hinitP hy (g := g) hg (argsL := argsL) (rest := rest) (hlen _ hsigM) hstack hdg
  obtain ⟨v, B, X', hpost, hsteps⟩ := hK m meth c ⟨T.setVm vm₁, locs, cells, slots⟩ { g with stack := rest } (.invokestatic index) mk argsL.toArray X₁ hg hsize hdg hW (X₁.named hnamed) (hpre vm₁ X₁.warmed)
  exact ⟨v, vm₁, B, X₁.warmed, X', hpost, fun target h => hstep₁ _ fun acts => by rw [doInvoke_state]; exact hsteps.trans h⟩
theorem vx_runSW {y : MethodName} {bytes cc : ByteArray} {maxL nL mc ms n index : Nat} {ret : Option FieldType} {hh : List (Nat × Nat × Nat × Nat)} {ws : List Cond} {rm : Room} {Pc : Array Value → State → Prop} {Qc : Array Value → State → Outcome → State → Prop} {free : Addr → Prop} {Ts : List Cond} {own : String} {As rest : List Value} {g : JFrame}
    (S : CallFix p m c cc nL s args Ts own) (hM : Met l y ws rm Pc Qc mc ms free) (cw : vx_CSW R s args own index y bytes maxL ret hh ws rm mc ms n) (hp : PreS s H Pc As)
    (hg : g.method = m) (hn : As.length = n) (hsize : g.locals.size = nL) (hstack : g.stack = As.reverse ++ rest) (hW : 2 * g.monitorRoom + (rest.map fun v => v.category).sum ≤ 8) (hdg : decode cc g.pc = .ok (.invokestatic index, 3)) (hf : cells + mc ≤ R.cells ∧ slots + ms ≤ R.slots) :
    va_Run p l e R s m args below meth c H locs cells slots mc ms g rest (Qc As.toArray) (free) := by
  obtain ⟨⟨hrc, hrs, hfr, hlo, hws, hcw⟩, hcode, hini, hy, hlen, hl, hstt⟩ := cw
  have hK : Back l R p e below s args y 3 8 (PreOf R mc ms Pc) (PostOf Qc mc ms free) := va_backW (hh := hh) (bytes := bytes) (maxL := maxL) (ret := ret) hM hp.1 hrc hrs hfr hlo hws hcw (fun a' U hW => word_at hW (Or.inl (by first | rfl | simp [Cond.onTables, Cond.keeps, Cond.steady])) hini)
  obtain ⟨hx, hb, hml, ho, -⟩ := S
  intro T hT X
  obtain ⟨v, vm₁, ⟨U', l2, c2, s2⟩, hW₁, X', ⟨g', mk, t, L, e1, e2, hq, h1, hL, h2, h3⟩, st⟩ := vx_callSW X hx (hh := hh) (bytes := bytes) (maxL := maxL) (ret := ret) ho hl hstt hini hcode hy hK hg (hsize.trans hml.symm) (argsL := As) (rest := rest) (fun sig h => hn.trans (hlen sig h)) hstack hW (by rw [hb]; exact hdg)
    (fun vm₁ hW₁ => ⟨hf.1, hf.2, hp.2 (T.setVm vm₁) hT hW₁⟩)
  dsimp only [Pt.U, Pt.locs, Pt.cells, Pt.slots] at X' e1 e2 h1 h2 h3 st
  subst h1; subst h2; subst h3
  exact ⟨v, (T.setVm vm₁).calling g' mk As.toArray, t, U', L, hT, X', hL, e1, e2, hq, st⟩
/-- not caught here, past rows that name other classes: it goes on to the caller -/
theorem vx_outP {p : Program} {l : Launch} {e : Env} {R : Room} {s : State} {m : MethodId} {args : Array Value} {below : List Frame} {meth : Method} {c : Code} {H : Heap} {locs : List Loc} {cells slots : Nat} {free : Addr → Prop} {ls : Array Slot} {rest : List Value} {Qc : Array Value → State → Outcome → State → Prop} {XC : String → State → State → Prop}
    {pc : Nat} {own E : String} {ce : Cell} {q : Addr} {mc ms : Nat} (hown : s.vm.findClass own = some m.cls) (hlocks : meth.locks = false)
    (hpass : ∀ z ∈ c.exceptionTable.toList, covers z pc = false ∨ (z.catchType ≠ 0 ∧ ∃ nm : String, (Cond.classLink own z.catchType nm).before args s = true ∧ va_Nc E nm s)) (hcell : H[q]? = some ce) (hv : ce.vm = .none) (hcl : s.vm.findClass E = some ce.cls)
    (hx : ∀ t : State, t.heap = H → s.vm.Alike t.vm → XC E s t) (hf : ∀ z ∈ locs, free z.base) (hc : cells ≤ mc) (hs : slots ≤ ms) :
    vx_W p l e R s m args below meth c H locs cells slots (vx_MQ below Qc XC args s mc ms free) (F0 m pc ls rest) q := by
  intro T hT X
  have hpl : e.platform.magicAccessors = ({} : Platform).magicAccessors := by rw [X.admits.platform]
  obtain ⟨vm', hW', X', st⟩ := X.outThrough hlocks q (g := F0 m pc ls rest) rfl rfl rfl (cell := ce) (by rw [hT]; exact hcell) (by rw [hv]; rfl)
    (by obtain ⟨k9, h9, -⟩ := Vm.findClass_spec hcl; exact ⟨k9, h9⟩) (fun z hz => by
      rcases hpass z hz with h | ⟨hz0, nm, hl1, hn1⟩
      · exact Or.inl h
      · obtain ⟨c6, hc6, hcl6⟩ := Cond.classLink_spec hown hl1 e.platform hpl
        obtain ⟨a8, b8, h1, h2, h3⟩ := hn1
        cases Option.some.inj (h1.symm.trans hcl)
        cases Option.some.inj (h2.symm.trans hc6)
        exact Or.inr ⟨hz0, _, hcl6, h3⟩)
  obtain ⟨g₀, hfr⟩ := X'.frames_eq
  have hcell9 : ((T.setVm vm').setFrames (.throwing q :: below)).heap[q]? = some ce := by
    show T.heap[q]? = some ce
    rw [hT]; exact hcell
  have hend : Ended ((T.setVm vm').setFrames (.throwing q :: below)) below (.threw q) := State.frames_setFrames _ (State.cur_lt_of_frames hfr)
  refine ⟨(T.setVm vm').setFrames (.throwing q :: below), ?_, .threw q, X'.here.running, hend, Or.inr ⟨q, rfl, E, ce, locs, hx _ hT (X'.ends _).1.alike, hcell9, hv, hcl, (X'.ends _).1, (X'.ends _).2.mono hc hs, hf⟩⟩
  rw [X.pushThrowing_eq]
  exact st
/-- a thing of a world lies in the heap -/
theorem vx_lt {D : va_G} {cl : List vw_C} {ws : va_W} {H1 : Heap} (h : va_P D cl ws H1) {k : Nat} {q : Nat × va_E} (hk : ws[k]? = some q) : q.1 < H1.size := (h k q hk).lt
end VXS
/-! ===== END ===== -/
/-! ===== BEGIN methods with a table of their own: called by a name, returning or throwing ===== -/
section VXH
/-! vx_backW, vx_callVX, vx_callSX, vx_callVW, vx_runVW, vx_runVX, vx_runSX, vx_ofWH follow the same proofs as their sisters above (Free/Laws.lean, Shelf42/LK1.lean); vx_outP calls Shelf42/NT130.lean (outThrough). -/
section
variable {l : Launch} {R : Room} {p : Program} {e : Env} {below : List Frame} {s : State} {sargs : Array Value} {y : MethodName} {len W9 : Nat}
theorem vx_backW {ws : List Cond} {rm : Room} {Pc : Array Value → State → Prop} {Qc : Array Value → State → Outcome → State → Prop} {XC : String → State → State → Prop} {mc ms : Nat} {free : Addr → Prop} {bytes : ByteArray} {maxL : Nat} {ret : Option FieldType} {hh : List (Nat × Nat × Nat × Nat)}
    (hM : vx_Met l y ws rm Pc Qc XC mc ms free) (hblind : FrameBlind Pc) (hrc : rm.cells = mc) (hrs : rm.slots = ms)
    (hframes : rm.frames + 1 ≤ R.frames) (hlocals : W9 + (maxL + 11) + rm.locals ≤ R.locals)
    (hws : ∀ w ∈ ws, ∀ a' U, s.WarmedH U.vm → w.before a' U = true) (hcode : Cond.codeWith y bytes maxL ret hh ∈ ws) (hinit : ∀ a' U, s.WarmedH U.vm → (Cond.initialized y.cls).before a' U = true) :
    vx_Back l R p e below s sargs y len W9 (PreOf R mc ms Pc) (PostOf Qc mc ms free) (vx_Post XC mc ms free) := by
  intro m meth c A g ig mk a X hg hsize hdg hW hn hp
  have h1 : (headSpec ws rm).pre.before a A.U = true := atoms_intro fun w hw => hws w hw _ _ X.warmed
  have h2 : (Cond.codeWith y bytes maxL ret hh).before a A.U = true := hws _ hcode _ _ X.warmed
  have h3 : (Cond.initialized y.cls).before a A.U = true := hinit _ _ X.warmed
  have h4 : A.cells + (headSpec ws rm).room.cells ≤ R.cells := by rw [show (headSpec ws rm).room.cells = mc from hrc]; exact hp.1
  have h5 : A.slots + (headSpec ws rm).room.slots ≤ R.slots := by rw [show (headSpec ws rm).room.slots = ms from hrs]; exact hp.2.1
  have hPc : Pc a (A.U.calling g mk a) := hblind _ _ _ _ hp.2.2
  obtain ⟨U, Ls, c0, s0⟩ := A
  dsimp only [Pt.U, Pt.locs, Pt.cells, Pt.slots] at h1 h2 h3 h4 h5 X hn hPc ⊢
  obtain ⟨m9, methY, cY, hn9, hmY, hcY, -, hlY, -⟩ := Cond.codeWith_spec h2
  cases Option.some.inj (hn9.symm.trans hn)
  obtain ⟨kY, hkY, -⟩ := className_of_methodNamed hn
  have hinitY : kY.init = .initialized := Cond.initialized_spec (findClass_of_methodNamed hn) hkY h3
  have h : At U g.method c below := by rw [hg]; exact X.here
  have hlocals9 : W9 + (maxL + 11) + (headSpec ws rm).room.locals ≤ R.locals := hlocals
  have happ : (headSpec ws rm).appliesLoose y e.platform (U.calling g mk a) = true :=
    Spec.appliesLoose_calling (g := g) h hdg hn hkY hinitY
      (X.room_calling (g := g) (R' := (headSpec ws rm).room) hsize hmY hcY hframes (by rw [hlY]; omega) h4 h5) h1
  obtain ⟨mid, hmid⟩ := h.above
  have hfr : (U.setTop g).frames = (.java g :: mid) ++ below := by rw [State.frames_setTop' g h.top, hmid]; rfl
  obtain ⟨o, s₂, hsteps, -, hend, hq⟩ := Steps.callFree hM p X.admits X.cas X.clock (acts := []) hfr happ hPc trivial
  have hq' : vx_Q Qc XC mc ms free a (U.calling g mk a) o s₂ := hq
  rw [State.frames_setTop' g h.top] at hend
  obtain ⟨g₀, hg0⟩ := Option.isSome_iff_exists.mp h.top
  obtain ⟨r, hr⟩ := State.topJava?_eq_some.mp hg0
  have hr' : (({ U with heap := s₂.heap, slotsUsed := s₂.slotsUsed } : State).setVm s₂.vm).frames = .java g₀ :: r := hr
  rcases hq' with ⟨hqc, L, hfe, hL⟩ | ⟨q, rfl, E, ce, L, hx, hce, hcv, hcl, hW₂, hsm, hL⟩
  · obtain ⟨⟨v, rfl⟩, hW₂, e2, q2, q3, q4, q5, q6⟩ := id hfe
    have e3 : s₂ = ({ (U.calling g mk a).setFrames s₂.frames with heap := s₂.heap, slotsUsed := s₂.slotsUsed } : State).setVm s₂.vm := by
      have : s₂ = ({ s₂ with vm := (U.calling g mk a).vm } : State).setVm s₂.vm := rfl
      rw [e2] at this
      exact this
    obtain ⟨c₂, i₂, len₂, hc₂, hd₂, hf₂⟩ := hend
    have hW' : U.WarmedH s₂.vm := hW₂
    have hcc : c₂ = c := by
      have h1 : s₂.code? g.method = U.code? g.method := by
        rw [State.code?_eq, State.code?_eq, hW'.alike.method?]
      exact Option.some.inj (hc₂.symm.trans (h1.trans h.code))
    subst hcc
    have hlen : len₂ = len := by rw [hdg] at hd₂; cases hd₂; rfl
    subst hlen
    have hs₂ : s₂ = (({ U with heap := s₂.heap, slotsUsed := s₂.slotsUsed } : State).setVm s₂.vm).setTop { g with pc := g.pc + len₂, stack := v.toList ++ g.stack } := by
      refine e3.trans ?_
      rw [hf₂, State.calling_eq h.top, State.setFrames_setFrames, State.setTop_of_frames _ hr', hr]
      rfl
    have hsame : U.sameButNew ({ U with heap := s₂.heap, slotsUsed := s₂.slotsUsed } : State) L mc ms := by
      refine ⟨?_, q2, q3, q4, q5, q6⟩
      obtain ⟨t, ht, -⟩ := State.frames_cons hr
      show ({ U with heap := s₂.heap, slotsUsed := s₂.slotsUsed } : State) = { U.setFrames U.frames with heap := s₂.heap, slotsUsed := s₂.slotsUsed }
      rw [State.setFrames_self ht]
    subst hg
    refine Or.inl ⟨v, ⟨(({ U with heap := s₂.heap, slotsUsed := s₂.slotsUsed } : State).setVm s₂.vm), Ls ++ L, c0 + mc, s0 + ms⟩,
      ⟨X.admits, X.cas, X.clock, X.frames, X.room, X.hears, X.method, X.code, (X.here.setHeapUsed s₂.heap s₂.slotsUsed).setVm hW'.alike, X.tail, State.WarmedH.trans X.warmed hW', X.limits, X.bytes, X.same.trans (hsame.setVm s.vm)⟩,
      ⟨g, mk, s₂, L, rfl, rfl, hqc, rfl, hL, rfl, rfl⟩, ?_⟩
    show Steps p.tables e below _ ((({ U with heap := s₂.heap, slotsUsed := s₂.slotsUsed } : State).setVm s₂.vm).setTop { g with pc := g.pc + len₂, stack := v.toList ++ g.stack })
    rw [← hs₂]
    exact hsteps
  · obtain ⟨e2, q2, q3, q4, q5, q6⟩ := id hsm
    have e3 : s₂ = ({ (U.calling g mk a).setFrames s₂.frames with heap := s₂.heap, slotsUsed := s₂.slotsUsed } : State).setVm s₂.vm := by
      have : s₂ = ({ s₂ with vm := (U.calling g mk a).vm } : State).setVm s₂.vm := rfl
      rw [e2] at this
      exact this
    have hf₂ : s₂.frames = .throwing q :: .java g :: U.frames.tail := hend
    have hW' : U.WarmedH s₂.vm := hW₂
    have hs₂ : s₂ = ((({ U with heap := s₂.heap, slotsUsed := s₂.slotsUsed } : State).setVm s₂.vm).setTop g).pushFrame (.throwing q) := by
      refine e3.trans ?_
      rw [hf₂, State.calling_eq h.top, State.setFrames_setFrames, State.pushFrame, State.frames_setTop _ hr', State.setTop_of_frames _ hr', State.setFrames_setFrames, hr]
      rfl
    have hsame : U.sameButNew ({ U with heap := s₂.heap, slotsUsed := s₂.slotsUsed } : State) L mc ms := by
      refine ⟨?_, q2, q3, q4, q5, q6⟩
      obtain ⟨t, ht, -⟩ := State.frames_cons hr
      show ({ U with heap := s₂.heap, slotsUsed := s₂.slotsUsed } : State) = { U.setFrames U.frames with heap := s₂.heap, slotsUsed := s₂.slotsUsed }
      rw [State.setFrames_self ht]
    subst hg
    refine Or.inr ⟨q, ⟨(({ U with heap := s₂.heap, slotsUsed := s₂.slotsUsed } : State).setVm s₂.vm), Ls ++ L, c0 + mc, s0 + ms⟩,
      ⟨X.admits, X.cas, X.clock, X.frames, X.room, X.hears, X.method, X.code, (X.here.setHeapUsed s₂.heap s₂.slotsUsed).setVm hW'.alike, X.tail, State.WarmedH.trans X.warmed hW', X.limits, X.bytes, X.same.trans (hsame.setVm s.vm)⟩,
      ⟨g, mk, s₂, L, E, ce, rfl, rfl, hx, hce, hcv, hcl, rfl, hL, rfl, rfl⟩, ?_⟩
    show Steps p.tables e below _ (((({ U with heap := s₂.heap, slotsUsed := s₂.slotsUsed } : State).setVm s₂.vm).setTop g).pushFrame (.throwing q))
    rw [← hs₂]
    exact hsteps
end
variable {p : Program} {l : Launch} {e : Env} {R : Room} {s : State} {m : MethodId} {args : Array Value} {below : List Frame} {meth : Method} {c : Code} {T : State} {H : Heap} {locs : List Loc} {cells slots : Nat}
theorem vx_callVX (X : Stand p l e R s m args below meth c T locs cells slots) (hexec : p.tables.exec = Jvm.exec) {own C : String} {index : Nat} {y : MethodName} {bytes : ByteArray} {maxL : Nat} {ret : Option FieldType} {hh : List (Nat × Nat × Nat × Nat)}
    (hown : s.vm.findClass own = some m.cls) (hlink : (Cond.methodLink own index y).before args s = true) (hinst : (Cond.instanceMethod y).before args s = true) (hsel : (Cond.selects C y y).before args s = true)
    (hcode : (Cond.codeWith y bytes maxL ret hh).before args s = true) (hy : y.cls ≠ "java/lang/invoke/MethodHandle" ∧ y.cls ≠ "java/lang/invoke/VarHandle")
    {W9 : Nat} {Pre : Pt → Array Value → Prop} {Post : Pt → Array Value → Option Value → Pt → Prop} {PostX : Pt → Array Value → Addr → Pt → Prop} (hK : vx_Back l R p e below s args y 3 W9 Pre Post PostX)
    {b : Addr} {cellB : Cell} (hcell : T.heap[b]? = some cellB) (hobj : cellB.vm.isStatics = false) (hcls : s.vm.findClass C = some cellB.cls)
    {g : JFrame} (hg : g.method = m) (hsize : g.locals.size = c.maxLocals) {argsL rest : List Value} (hlen : ∀ sig, parseMethodDescriptor y.desc = some sig → argsL.length = sig.parameters.length)
    (hstack : g.stack = argsL.reverse ++ .ref b :: rest) (hW : 2 * g.monitorRoom + (rest.map fun v => v.category).sum ≤ W9) (hdg : decode c.code g.pc = .ok (.invokevirtual index, 3))
    (hpre : ∀ vm₁, s.WarmedH vm₁ → Pre ⟨T.setVm vm₁, locs, cells, slots⟩ (Value.ref b :: argsL).toArray) :
    (∃ (v : Option Value) (vm₁ : Vm) (B : Pt), s.WarmedH vm₁ ∧ Stand p l e R s m args below meth c B.U B.locs B.cells B.slots ∧ Post ⟨T.setVm vm₁, locs, cells, slots⟩ (Value.ref b :: argsL).toArray v B ∧
      ∀ target, Steps p.tables e below (B.U.setTop { g with pc := g.pc + 3, stack := v.toList ++ rest }) target → Steps p.tables e below (T.setTop g) target) ∨
    (∃ (q : Addr) (vm₁ : Vm) (B : Pt), s.WarmedH vm₁ ∧ Stand p l e R s m args below meth c B.U B.locs B.cells B.slots ∧ PostX ⟨T.setVm vm₁, locs, cells, slots⟩ (Value.ref b :: argsL).toArray q B ∧
      Steps p.tables e below (T.setTop g) ((B.U.setTop { g with stack := rest }).pushFrame (.throwing q))) := by
  obtain ⟨mk, methM, hnamed, hmethM, hstM, habM⟩ := Cond.instanceMethod_spec hinst
  obtain ⟨m8, methM', cM, hn8, hmethM', -, -, -, -, -, -, hsigM⟩ := Cond.codeWith_spec hcode
  cases Option.some.inj (hn8.symm.trans hnamed)
  cases hmethM.symm.trans hmethM'
  obtain ⟨c2, r2, m2, q1, q2, q3, q4, kP, hkP, hkPi⟩ := Cond.selects_spec hsel
  cases hcls.symm.trans q1
  cases (State.methodFound?_of_named hnamed hy).symm.trans q2
  cases hnamed.symm.trans q3
  have hselP : selectMethod e.platform s.vm cellB.cls mk = .method mk := by rw [Launch.admits_selectMethod X.admits]; exact q4
  obtain ⟨vm₁, X₁, hstep₁⟩ := X.invokevirtual hexec hown hlink hnamed hmethM hstM hkP hkPi hy (a := b) (cell := cellB) hcell
    (fun z h => by rw [h] at hobj; cases hobj) hselP hmethM habM hkP hkPi (g := g) hg (argsL := argsL) (rest := rest) (hlen _ hsigM) hstack hdg
  rcases hK m meth c ⟨T.setVm vm₁, locs, cells, slots⟩ { g with stack := rest } (.invokevirtual index) mk (Value.ref b :: argsL).toArray X₁ hg hsize hdg hW (X₁.named hnamed) (hpre vm₁ X₁.warmed) with ⟨v, B, X', hpost, hsteps⟩ | ⟨q, B, X', hpost, hsteps⟩
  · exact Or.inl ⟨v, vm₁, B, X₁.warmed, X', hpost, fun target h => hstep₁ _ fun acts => by rw [doInvoke_state]; exact hsteps.trans h⟩
  · exact Or.inr ⟨q, vm₁, B, X₁.warmed, X', hpost, hstep₁ _ fun acts => by rw [doInvoke_state]; exact hsteps⟩
theorem vx_callSX (X : Stand p l e R s m args below meth c T locs cells slots) (hexec : p.tables.exec = Jvm.exec) {own : String} {index : Nat} {y : MethodName} {bytes : ByteArray} {maxL : Nat} {ret : Option FieldType} {hh : List (Nat × Nat × Nat × Nat)}
    (hown : s.vm.findClass own = some m.cls) (hlink : (Cond.methodLink own index y).before args s = true) (hstat : (Cond.static y).before args s = true) (hinit : (Cond.initialized y.cls).before args s = true)
    (hcode : (Cond.codeWith y bytes maxL ret hh).before args s = true) (hy : y.cls ≠ "java/lang/invoke/MethodHandle" ∧ y.cls ≠ "java/lang/invoke/VarHandle")
    {W9 : Nat} {Pre : Pt → Array Value → Prop} {Post : Pt → Array Value → Option Value → Pt → Prop} {PostX : Pt → Array Value → Addr → Pt → Prop} (hK : vx_Back l R p e below s args y 3 W9 Pre Post PostX)
    {g : JFrame} (hg : g.method = m) (hsize : g.locals.size = c.maxLocals) {argsL rest : List Value} (hlen : ∀ sig, parseMethodDescriptor y.desc = some sig → argsL.length = sig.parameters.length)
    (hstack : g.stack = argsL.reverse ++ rest) (hW : 2 * g.monitorRoom + (rest.map fun v => v.category).sum ≤ W9) (hdg : decode c.code g.pc = .ok (.invokestatic index, 3))
    (hpre : ∀ vm₁, s.WarmedH vm₁ → Pre ⟨T.setVm vm₁, locs, cells, slots⟩ argsL.toArray) :
    (∃ (v : Option Value) (vm₁ : Vm) (B : Pt), s.WarmedH vm₁ ∧ Stand p l e R s m args below meth c B.U B.locs B.cells B.slots ∧ Post ⟨T.setVm vm₁, locs, cells, slots⟩ argsL.toArray v B ∧
      ∀ target, Steps p.tables e below (B.U.setTop { g with pc := g.pc + 3, stack := v.toList ++ rest }) target → Steps p.tables e below (T.setTop g) target) ∨
    (∃ (q : Addr) (vm₁ : Vm) (B : Pt), s.WarmedH vm₁ ∧ Stand p l e R s m args below meth c B.U B.locs B.cells B.slots ∧ PostX ⟨T.setVm vm₁, locs, cells, slots⟩ argsL.toArray q B ∧
      Steps p.tables e below (T.setTop g) ((B.U.setTop { g with stack := rest }).pushFrame (.throwing q))) := by
  obtain ⟨mk, methM, cM, hnamed, hmethM, -, -, -, -, -, -, hsigM⟩ := Cond.codeWith_spec hcode
  have hstatic : methM.isStatic = true := Cond.static_spec hnamed hmethM hstat
  obtain ⟨kP, hkP, -⟩ := className_of_methodNamed hnamed
  have hinitP : kP.init = .initialized := Cond.initialized_spec (findClass_of_methodNamed hnamed) hkP hinit
  obtain ⟨vm₁, X₁, hstep₁⟩ := X.invokestatic hexec hown hlink hnamed hmethM hstatic hkP hinitP hy (g := g) hg (argsL := argsL) (rest := rest) (hlen _ hsigM) hstack hdg
  rcases hK m meth c ⟨T.setVm vm₁, locs, cells, slots⟩ { g with stack := rest } (.invokestatic index) mk argsL.toArray X₁ hg hsize hdg hW (X₁.named hnamed) (hpre vm₁ X₁.warmed) with ⟨v, B, X', hpost, hsteps⟩ | ⟨q, B, X', hpost, hsteps⟩
  · exact Or.inl ⟨v, vm₁, B, X₁.warmed, X', hpost, fun target h => hstep₁ _ fun acts => by rw [doInvoke_state]; exact hsteps.trans h⟩
  · exact Or.inr ⟨q, vm₁, B, X₁.warmed, X', hpost, hstep₁ _ fun acts => by rw [doInvoke_state]; exact hsteps⟩
theorem vx_callVW (X : Stand p l e R s m args below meth c T locs cells slots) (hexec : p.tables.exec = Jvm.exec) {own C : String} {index : Nat} {y : MethodName} {bytes : ByteArray} {maxL : Nat} {ret : Option FieldType} {hh : List (Nat × Nat × Nat × Nat)}
    (hown : s.vm.findClass own = some m.cls) (hlink : (Cond.methodLink own index y).before args s = true) (hinst : (Cond.instanceMethod y).before args s = true) (hsel : (Cond.selects C y y).before args s = true)
    (hcode : (Cond.codeWith y bytes maxL ret hh).before args s = true) (hy : y.cls ≠ "java/lang/invoke/MethodHandle" ∧ y.cls ≠ "java/lang/invoke/VarHandle")
    {W9 : Nat} {Pre : Pt → Array Value → Prop} {Post : Pt → Array Value → Option Value → Pt → Prop} (hK : Back l R p e below s args y 3 W9 Pre Post)
    {b : Addr} {cellB : Cell} (hcell : T.heap[b]? = some cellB) (hobj : cellB.vm.isStatics = false) (hcls : s.vm.findClass C = some cellB.cls)
    {g : JFrame} (hg : g.method = m) (hsize : g.locals.size = c.maxLocals) {argsL rest : List Value} (hlen : ∀ sig, parseMethodDescriptor y.desc = some sig → argsL.length = sig.parameters.length)
    (hstack : g.stack = argsL.reverse ++ .ref b :: rest) (hW : 2 * g.monitorRoom + (rest.map fun v => v.category).sum ≤ W9) (hdg : decode c.code g.pc = .ok (.invokevirtual index, 3))
    (hpre : ∀ vm₁, s.WarmedH vm₁ → Pre ⟨T.setVm vm₁, locs, cells, slots⟩ (Value.ref b :: argsL).toArray) :
    ∃ (v : Option Value) (vm₁ : Vm) (B : Pt), s.WarmedH vm₁ ∧ Stand p l e R s m args below meth c B.U B.locs B.cells B.slots ∧ Post ⟨T.setVm vm₁, locs, cells, slots⟩ (Value.ref b :: argsL).toArray v B ∧
      ∀ target, Steps p.tables e below (B.U.setTop { g with pc := g.pc + 3, stack := v.toList ++ rest }) target → Steps p.tables e below (T.setTop g) target := by
  obtain ⟨mk, methM, hnamed, hmethM, hstM, habM⟩ := Cond.instanceMethod_spec hinst
  obtain ⟨m8, methM', cM, hn8, hmethM', -, -, -, -, -, -, hsigM⟩ := Cond.codeWith_spec hcode
  cases Option.some.inj (hn8.symm.trans hnamed)
  cases hmethM.symm.trans hmethM'
  obtain ⟨c2, r2, m2, q1, q2, q3, q4, kP, hkP, hkPi⟩ := Cond.selects_spec hsel
  cases hcls.symm.trans q1
  cases (State.methodFound?_of_named hnamed hy).symm.trans q2
  cases hnamed.symm.trans q3
  have hselP : selectMethod e.platform s.vm cellB.cls mk = .method mk := by rw [Launch.admits_selectMethod X.admits]; exact q4
  obtain ⟨vm₁, X₁, hstep₁⟩ := X.invokevirtual hexec hown hlink hnamed hmethM hstM hkP hkPi hy (a := b) (cell := cellB) hcell
    (fun z h => by rw [h] at hobj; cases hobj) hselP hmethM habM hkP hkPi (g := g) hg (argsL := argsL) (rest := rest) (hlen _ hsigM) hstack hdg
  obtain ⟨v, B, X', hpost, hsteps⟩ := hK m meth c ⟨T.setVm vm₁, locs, cells, slots⟩ { g with stack := rest } (.invokevirtual index) mk (Value.ref b :: argsL).toArray X₁ hg hsize hdg hW (X₁.named hnamed) (hpre vm₁ X₁.warmed)
  exact ⟨v, vm₁, B, X₁.warmed, X', hpost, fun target h => hstep₁ _ fun acts => by rw [doInvoke_state]; exact hsteps.trans h⟩
abbrev vx_CVW (R : Room) (s : State) (args : Array Value) (own C : String) (index : Nat) (y : MethodName) (bytes : ByteArray) (maxL : Nat) (ret : Option FieldType) (hh : List (Nat × Nat × Nat × Nat)) (ws : List Cond) (rm : Room) (mc ms n : Nat) : Prop :=
  (rm.cells = mc ∧ rm.slots = ms ∧ rm.frames + 1 ≤ R.frames ∧ 8 + (maxL + 11) + rm.locals ≤ R.locals ∧ (∀ w ∈ ws, ∀ (a' : Array Value) (U : State), s.WarmedH U.vm → w.before a' U = true) ∧ Cond.codeWith y bytes maxL ret hh ∈ ws) ∧
  (Cond.codeWith y bytes maxL ret hh).before args s = true ∧ (Cond.initialized y.cls).before args s = true ∧ (y.cls ≠ "java/lang/invoke/MethodHandle" ∧ y.cls ≠ "java/lang/invoke/VarHandle") ∧
  (∀ sig, parseMethodDescriptor y.desc = some sig → n = sig.parameters.length) ∧ (Cond.methodLink own index y).before args s = true ∧ (Cond.instanceMethod y).before args s = true ∧ (Cond.selects C y y).before args s = true
theorem vx_cwVW {own C : String} {index maxL mc ms : Nat} {y : MethodName} {bytes : ByteArray} {ret : Option FieldType} {hh : List (Nat × Nat × Nat × Nat)} {Ts ws ws' : List Cond} {rm : Room} (n : Nat) (ht : ∀ w ∈ Ts, w.before args s = true) (hT : GoodIn Ts (wsV own index C y ws)) (hw : ws = Cond.codeWith y bytes maxL ret hh :: ws') (hrc : rm.cells = mc) (hrs : rm.slots = ms)
    (hd : y.cls = C ∧ y.cls ≠ "java/lang/invoke/MethodHandle" ∧ y.cls ≠ "java/lang/invoke/VarHandle" ∧ (parseMethodDescriptor y.desc).map (fun d => d.parameters.length) = some n) (hR : rm.frames + 1 ≤ R.frames ∧ 8 + (maxL + 11) + rm.locals ≤ R.locals) :
    vx_CVW R s args own C index y bytes maxL ret hh ws rm mc ms n := by
  obtain ⟨hC, hd⟩ := hd
  subst hC
  have ok : ∀ w ∈ wsV own index y.cls y ws, w.before args s = true := fun w h => ht w (hT w h).1
  have hG : GoodIn Ts ws := fun w h => hT w (by unfold wsV; exact List.mem_append_right _ h)
  have hc : Cond.codeWith y bytes maxL ret hh ∈ ws := by rw [hw]; exact List.mem_cons_self
  refine ⟨⟨hrc, hrs, hR.1, hR.2, pay_in ht hG, hc⟩, ht _ (hG _ hc).1, ok _ (by simp [wsV]), ⟨hd.1, hd.2.1⟩, fun sig h => ?_, ok _ (by simp [wsV]), ok _ (by simp [wsV]), ok _ (by simp [wsV])⟩
  have h2 := hd.2.2
  rw [h] at h2
  exact (Option.some.inj h2).symm
theorem vx_runVW {y : MethodName} {bytes cc : ByteArray} {maxL nL mc ms n index : Nat} {ret : Option FieldType} {hh : List (Nat × Nat × Nat × Nat)} {ws : List Cond} {rm : Room} {Pc : Array Value → State → Prop} {Qc : Array Value → State → Outcome → State → Prop} {free : Addr → Prop} {Ts : List Cond} {own C : String} {b : Addr} {As rest : List Value} {g : JFrame}
    (S : CallFix p m c cc nL s args Ts own) (hM : Met l y ws rm Pc Qc mc ms free) (cw : vx_CVW R s args own C index y bytes maxL ret hh ws rm mc ms n) (hp : PreV s H C b Pc As)
    (hg : g.method = m) (hn : As.length = n) (hsize : g.locals.size = nL) (hstack : g.stack = As.reverse ++ .ref b :: rest) (hW : 2 * g.monitorRoom + (rest.map fun v => v.category).sum ≤ 8) (hdg : decode cc g.pc = .ok (.invokevirtual index, 3)) (hf : cells + mc ≤ R.cells ∧ slots + ms ≤ R.slots) :
    va_Run p l e R s m args below meth c H locs cells slots mc ms g rest (Qc (Value.ref b :: As).toArray) free := by
  obtain ⟨⟨hrc, hrs, hfr, hlo, hws, hcw⟩, hcode, hini, hy, hlen, hl, hin, hse⟩ := cw
  have hK : Back l R p e below s args y 3 8 (PreOf R mc ms Pc) (PostOf Qc mc ms free) := va_backW (hh := hh) (bytes := bytes) (maxL := maxL) (ret := ret) hM hp.1 hrc hrs hfr hlo hws hcw (fun a' U hW => word_at hW (Or.inl (by first | rfl | simp [Cond.onTables, Cond.keeps, Cond.steady])) hini)
  obtain ⟨hx, hb, hml, ho, -⟩ := S
  obtain ⟨-, ⟨cellB, hcB, hoB, hclB⟩, hPc⟩ := hp
  intro T hT X
  obtain ⟨v, vm₁, ⟨U', l2, c2, s2⟩, hW₁, X', ⟨g', mk, t, L, e1, e2, hq, h1, hL, h2, h3⟩, st⟩ := vx_callVW X hx (C := C) (hh := hh) (bytes := bytes) (maxL := maxL) (ret := ret) ho hl hin hse hcode hy hK (by rw [hT]; exact hcB) hoB hclB hg (hsize.trans hml.symm) (argsL := As) (rest := rest) (fun sig h => hn.trans (hlen sig h)) hstack hW (by rw [hb]; exact hdg)
    (fun vm₁ hW₁ => ⟨hf.1, hf.2, hPc (T.setVm vm₁) hT hW₁⟩)
  dsimp only [Pt.U, Pt.locs, Pt.cells, Pt.slots] at X' e1 e2 h1 h2 h3 st
  subst h1; subst h2; subst h3
  exact ⟨v, (T.setVm vm₁).calling g' mk (Value.ref b :: As).toArray, t, U', L, hT, X', hL, e1, e2, hq, st⟩
section
variable {y : MethodName} {bytes cc : ByteArray} {maxL nL mc ms n index : Nat} {ret : Option FieldType} {ws : List Cond} {rm : Room} {Pc : Array Value → State → Prop} {Qc : Array Value → State → Outcome → State → Prop} {XC : String → State → State → Prop} {free : Addr → Prop} {Ts : List Cond} {own C : String} {b : Addr} {As rest : List Value} {g : JFrame}
theorem vx_runVX {hh : List (Nat × Nat × Nat × Nat)} (S : CallFix p m c cc nL s args Ts own) (hM : vx_Met l y ws rm Pc Qc XC mc ms free) (cw : vx_CVW R s args own C index y bytes maxL ret hh ws rm mc ms n) (hp : PreV s H C b Pc As)
    (hg : g.method = m) (hn : As.length = n) (hsize : g.locals.size = nL) (hstack : g.stack = As.reverse ++ .ref b :: rest) (hW : 2 * g.monitorRoom + (rest.map fun v => v.category).sum ≤ 8) (hdg : decode cc g.pc = .ok (.invokevirtual index, 3)) (hf : cells + mc ≤ R.cells ∧ slots + ms ≤ R.slots) :
    vx_Run p l e R s m args below meth c H locs cells slots mc ms g rest (Qc (Value.ref b :: As).toArray) XC free := by
  obtain ⟨⟨hrc, hrs, hfr, hlo, hws, hcw⟩, hcode, hini, hy, hlen, hl, hin, hse⟩ := cw
  have hK : vx_Back l R p e below s args y 3 8 (PreOf R mc ms Pc) (PostOf Qc mc ms free) (vx_Post XC mc ms free) := vx_backW (hh := hh) (bytes := bytes) (maxL := maxL) (ret := ret) hM hp.1 hrc hrs hfr hlo hws hcw (fun a' U hW => word_at hW (Or.inl (by first | rfl | simp [Cond.onTables, Cond.keeps, Cond.steady])) hini)
  obtain ⟨hx, hb, hml, ho, -⟩ := S
  obtain ⟨-, ⟨cellB, hcB, hoB, hclB⟩, hPc⟩ := hp
  intro T hT X
  rcases vx_callVX X hx (C := C) (hh := hh) (bytes := bytes) (maxL := maxL) (ret := ret) ho hl hin hse hcode hy hK (by rw [hT]; exact hcB) hoB hclB hg (hsize.trans hml.symm) (argsL := As) (rest := rest) (fun sig h => hn.trans (hlen sig h)) hstack hW (by rw [hb]; exact hdg)
    (fun vm₁ hW₁ => ⟨hf.1, hf.2, hPc (T.setVm vm₁) hT hW₁⟩) with ⟨v, vm₁, ⟨U', l2, c2, s2⟩, hW₁, X', ⟨g', mk, t, L, e1, e2, hq, h1, hL, h2, h3⟩, st⟩ | ⟨q, vm₁, ⟨U', l2, c2, s2⟩, hW₁, X', ⟨g', mk, t, L, E, ce, e1, e2, hq, hce, hcv, hcl, h1, hL, h2, h3⟩, st⟩
  · dsimp only [Pt.U, Pt.locs, Pt.cells, Pt.slots] at X' e1 e2 h1 h2 h3 st
    subst h1; subst h2; subst h3
    exact Or.inl ⟨v, (T.setVm vm₁).calling g' mk (Value.ref b :: As).toArray, t, U', L, hT, X', hL, e1, e2, hq, st⟩
  · dsimp only [Pt.U, Pt.locs, Pt.cells, Pt.slots] at X' e1 e2 h1 h2 h3 st hcl
    subst h1; subst h2; subst h3
    exact Or.inr ⟨q, (T.setVm vm₁).calling g' mk (Value.ref b :: As).toArray, t, U', L, E, ce, hT, X', hL, e1, e2, hq, hce, hcv, vx_cls hW₁ hcl, st⟩
theorem vx_runSX {hh : List (Nat × Nat × Nat × Nat)} (S : CallFix p m c cc nL s args Ts own) (hM : vx_Met l y ws rm Pc Qc XC mc ms free) (cw : vx_CSW R s args own index y bytes maxL ret hh ws rm mc ms n) (hp : PreS s H Pc As)
    (hg : g.method = m) (hn : As.length = n) (hsize : g.locals.size = nL) (hstack : g.stack = As.reverse ++ rest) (hW : 2 * g.monitorRoom + (rest.map fun v => v.category).sum ≤ 8) (hdg : decode cc g.pc = .ok (.invokestatic index, 3)) (hf : cells + mc ≤ R.cells ∧ slots + ms ≤ R.slots) :
    vx_Run p l e R s m args below meth c H locs cells slots mc ms g rest (Qc As.toArray) XC free := by
  obtain ⟨⟨hrc, hrs, hfr, hlo, hws, hcw⟩, hcode, hini, hy, hlen, hl, hstt⟩ := cw
  have hK : vx_Back l R p e below s args y 3 8 (PreOf R mc ms Pc) (PostOf Qc mc ms free) (vx_Post XC mc ms free) := vx_backW (hh := hh) (bytes := bytes) (maxL := maxL) (ret := ret) hM hp.1 hrc hrs hfr hlo hws hcw (fun a' U hW => word_at hW (Or.inl (by first | rfl | simp [Cond.onTables, Cond.keeps, Cond.steady])) hini)
  obtain ⟨hx, hb, hml, ho, -⟩ := S
  intro T hT X
  rcases vx_callSX X hx (hh := hh) (bytes := bytes) (maxL := maxL) (ret := ret) ho hl hstt hini hcode hy hK hg (hsize.trans hml.symm) (argsL := As) (rest := rest) (fun sig h => hn.trans (hlen sig h)) hstack hW (by rw [hb]; exact hdg)
    (fun vm₁ hW₁ => ⟨hf.1, hf.2, hp.2 (T.setVm vm₁) hT hW₁⟩) with ⟨v, vm₁, ⟨U', l2, c2, s2⟩, hW₁, X', ⟨g', mk, t, L, e1, e2, hq, h1, hL, h2, h3⟩, st⟩ | ⟨q, vm₁, ⟨U', l2, c2, s2⟩, hW₁, X', ⟨g', mk, t, L, E, ce, e1, e2, hq, hce, hcv, hcl, h1, hL, h2, h3⟩, st⟩
  · dsimp only [Pt.U, Pt.locs, Pt.cells, Pt.slots] at X' e1 e2 h1 h2 h3 st
    subst h1; subst h2; subst h3
    exact Or.inl ⟨v, (T.setVm vm₁).calling g' mk As.toArray, t, U', L, hT, X', hL, e1, e2, hq, st⟩
  · dsimp only [Pt.U, Pt.locs, Pt.cells, Pt.slots] at X' e1 e2 h1 h2 h3 st hcl
    subst h1; subst h2; subst h3
    exact Or.inr ⟨q, (T.setVm vm₁).calling g' mk As.toArray, t, U', L, E, ce, hT, X', hL, e1, e2, hq, hce, hcv, vx_cls hW₁ hcl, st⟩
end
end VXH
theorem vx_ofWH {l : Launch} {y : MethodName} {ws ws' : List Cond} {rm : Room} {Pc : Array Value → State → Prop} {Qc : Array Value → State → Outcome → State → Prop} {XC : String → State → State → Prop} {mc ms : Nat} {free : Addr → Prop} {cc : ByteArray} {maxL : Nat} {ret : Option FieldType} {hh : List (Nat × Nat × Nat × Nat)}
    (hy : plainName y.cls = true) (hw : ws = Cond.codeWith y cc maxL ret hh :: ws')
    (body : ∀ p e s m args below meth c s₁, BodyLoose p l y (headSpec ws rm) cc maxL ret e s m args below meth c s₁ → c.maxLocals = maxL → Pc args s →
      W p l e (headSpec ws rm).room s m args below meth c s.heap [] 0 0 (vx_MQ below Qc XC args s mc ms free) (entryFrame m args maxL)) : vx_Met l y ws rm Pc Qc XC mc ms free := by
  refine MetFree.of_bodyS (code := cc) (maxLocals := maxL) (ret := ret) hy ?_ ?_
  · intro args s m h hn
    obtain ⟨m9, meth, c, hn9, h1, h2, h3, h4, -, h5, h6, -⟩ := Cond.codeWith_spec (atoms_spec (ws := ws) h _ (by rw [hw]; exact List.mem_cons_self))
    cases hn.symm.trans hn9
    exact ⟨meth, c, h1, h2, h3, h4, h5, h6⟩
  · intro p e s m args below meth c s₁ B hml hP _
    have hh0 : s₁.heap = s.heap := by rw [B.state]; rfl
    obtain ⟨t, a1, o, b1, b2, b3⟩ := body p e s m args below meth c s₁ B hml hP s₁ hh0 (Stand.of_body B)
    exact ⟨t, o, a1, b1, b2, b3⟩
/-! ===== END ===== -/
end
section
-- ===== PART A: goes FIRST, ahead of the names: the tables' words, and 'selects' of the private methods out of them =====
/-- a private method of a class that the tables say can be made, by its rows of tables_1 -/
def lw_okq (q : MethodName × Nat) : Prop := (q.1.cls ≠ "java/lang/invoke/MethodHandle" ∧ q.1.cls ≠ "java/lang/invoke/VarHandle") ∧ Cond.instantiable q.1.cls q.2 ∈ tables_1 ∧ Cond.privateMethod q.1 ∈ tables_1 ∧ Cond.instanceMethod q.1 ∈ tables_1
theorem lw_p0 : lw_okq (⟨"PisteLine", "arePoolsDrawn", "()Z"⟩, 10) := ⟨⟨by decide +kernel, by decide +kernel⟩, List.mem_of_getElem? (i := 18) (by decide +kernel), List.mem_of_getElem? (i := 175) (by decide +kernel), List.mem_of_getElem? (i := 176) (by decide +kernel)⟩
theorem lw_p1 : lw_okq (⟨"java/lang/Throwable", "fillInStackTrace", "(I)Ljava/lang/Throwable;"⟩, 6) := ⟨⟨by decide +kernel, by decide +kernel⟩, List.mem_of_getElem? (i := 217) (by decide +kernel), List.mem_of_getElem? (i := 215) (by decide +kernel), List.mem_of_getElem? (i := 216) (by decide +kernel)⟩
theorem lw_p2 : lw_okq (⟨"PisteLine", "fencerAt", "(I)LPisteLine$Fencer;"⟩, 10) := ⟨⟨by decide +kernel, by decide +kernel⟩, List.mem_of_getElem? (i := 18) (by decide +kernel), List.mem_of_getElem? (i := 277) (by decide +kernel), List.mem_of_getElem? (i := 278) (by decide +kernel)⟩
theorem lw_p3 : lw_okq (⟨"PisteLine", "weaponAt", "(I)LPisteLine$Weapon;"⟩, 10) := ⟨⟨by decide +kernel, by decide +kernel⟩, List.mem_of_getElem? (i := 18) (by decide +kernel), List.mem_of_getElem? (i := 328) (by decide +kernel), List.mem_of_getElem? (i := 329) (by decide +kernel)⟩
theorem lw_p4 : lw_okq (⟨"PisteLine", "fail", "(LPisteLine$Weapon;)V"⟩, 10) := ⟨⟨by decide +kernel, by decide +kernel⟩, List.mem_of_getElem? (i := 18) (by decide +kernel), List.mem_of_getElem? (i := 350) (by decide +kernel), List.mem_of_getElem? (i := 351) (by decide +kernel)⟩
theorem lw_p5 : lw_okq (⟨"PisteLine$Tableau", "winnerNow", "(ILPisteLine$Bout;)I"⟩, 5) := ⟨⟨by decide +kernel, by decide +kernel⟩, List.mem_of_getElem? (i := 64) (by decide +kernel), List.mem_of_getElem? (i := 411) (by decide +kernel), List.mem_of_getElem? (i := 412) (by decide +kernel)⟩
theorem lw_p6 : lw_okq (⟨"PisteLine$Tableau", "drop", "(LPisteLine$Bout;LPisteLine$Piste;)V"⟩, 5) := ⟨⟨by decide +kernel, by decide +kernel⟩, List.mem_of_getElem? (i := 64) (by decide +kernel), List.mem_of_getElem? (i := 428) (by decide +kernel), List.mem_of_getElem? (i := 429) (by decide +kernel)⟩
theorem lw_p7 : lw_okq (⟨"PisteLine", "boutAt", "(I)LPisteLine$Bout;"⟩, 10) := ⟨⟨by decide +kernel, by decide +kernel⟩, List.mem_of_getElem? (i := 18) (by decide +kernel), List.mem_of_getElem? (i := 465) (by decide +kernel), List.mem_of_getElem? (i := 466) (by decide +kernel)⟩
theorem lw_p8 : lw_okq (⟨"PisteLine", "isTooEarly", "(I)Z"⟩, 10) := ⟨⟨by decide +kernel, by decide +kernel⟩, List.mem_of_getElem? (i := 18) (by decide +kernel), List.mem_of_getElem? (i := 560) (by decide +kernel), List.mem_of_getElem? (i := 561) (by decide +kernel)⟩
theorem lw_p9 : lw_okq (⟨"PisteLine$Phrase", "firstLight", "()I"⟩, 10) := ⟨⟨by decide +kernel, by decide +kernel⟩, List.mem_of_getElem? (i := 512) (by decide +kernel), List.mem_of_getElem? (i := 602) (by decide +kernel), List.mem_of_getElem? (i := 603) (by decide +kernel)⟩
theorem lw_p10 : lw_okq (⟨"PisteLine$Phrase", "isALight", "(I)Z"⟩, 10) := ⟨⟨by decide +kernel, by decide +kernel⟩, List.mem_of_getElem? (i := 512) (by decide +kernel), List.mem_of_getElem? (i := 606) (by decide +kernel), List.mem_of_getElem? (i := 607) (by decide +kernel)⟩
theorem lw_p11 : lw_okq (⟨"PisteLine$Phrase", "otherLight", "(I)I"⟩, 10) := ⟨⟨by decide +kernel, by decide +kernel⟩, List.mem_of_getElem? (i := 512) (by decide +kernel), List.mem_of_getElem? (i := 610) (by decide +kernel), List.mem_of_getElem? (i := 611) (by decide +kernel)⟩
theorem lw_p12 : lw_okq (⟨"PisteLine$Phrase", "touchOf", "(I)I"⟩, 10) := ⟨⟨by decide +kernel, by decide +kernel⟩, List.mem_of_getElem? (i := 512) (by decide +kernel), List.mem_of_getElem? (i := 614) (by decide +kernel), List.mem_of_getElem? (i := 615) (by decide +kernel)⟩
theorem lw_p13 : lw_okq (⟨"PisteLine$Phrase", "rightAt", "(I)I"⟩, 10) := ⟨⟨by decide +kernel, by decide +kernel⟩, List.mem_of_getElem? (i := 512) (by decide +kernel), List.mem_of_getElem? (i := 618) (by decide +kernel), List.mem_of_getElem? (i := 619) (by decide +kernel)⟩
theorem lw_p14 : lw_okq (⟨"PisteLine", "drawPool", "(II)V"⟩, 10) := ⟨⟨by decide +kernel, by decide +kernel⟩, List.mem_of_getElem? (i := 18) (by decide +kernel), List.mem_of_getElem? (i := 731) (by decide +kernel), List.mem_of_getElem? (i := 732) (by decide +kernel)⟩
theorem lw_p15 : lw_okq (⟨"PisteLine", "countPools", "()V"⟩, 10) := ⟨⟨by decide +kernel, by decide +kernel⟩, List.mem_of_getElem? (i := 18) (by decide +kernel), List.mem_of_getElem? (i := 784) (by decide +kernel), List.mem_of_getElem? (i := 785) (by decide +kernel)⟩
def lw_privs_1 : List (MethodName × Nat) := [(⟨"PisteLine", "arePoolsDrawn", "()Z"⟩, 10), (⟨"java/lang/Throwable", "fillInStackTrace", "(I)Ljava/lang/Throwable;"⟩, 6), (⟨"PisteLine", "fencerAt", "(I)LPisteLine$Fencer;"⟩, 10), (⟨"PisteLine", "weaponAt", "(I)LPisteLine$Weapon;"⟩, 10), (⟨"PisteLine", "fail", "(LPisteLine$Weapon;)V"⟩, 10), (⟨"PisteLine$Tableau", "winnerNow", "(ILPisteLine$Bout;)I"⟩, 5), (⟨"PisteLine$Tableau", "drop", "(LPisteLine$Bout;LPisteLine$Piste;)V"⟩, 5), (⟨"PisteLine", "boutAt", "(I)LPisteLine$Bout;"⟩, 10), (⟨"PisteLine", "isTooEarly", "(I)Z"⟩, 10), (⟨"PisteLine$Phrase", "firstLight", "()I"⟩, 10), (⟨"PisteLine$Phrase", "isALight", "(I)Z"⟩, 10), (⟨"PisteLine$Phrase", "otherLight", "(I)I"⟩, 10), (⟨"PisteLine$Phrase", "touchOf", "(I)I"⟩, 10), (⟨"PisteLine$Phrase", "rightAt", "(I)I"⟩, 10), (⟨"PisteLine", "drawPool", "(II)V"⟩, 10), (⟨"PisteLine", "countPools", "()V"⟩, 10)]
theorem lw_r1 : ∀ q ∈ lw_privs_1, lw_okq q := List.forall_mem_cons.mpr ⟨lw_p0, List.forall_mem_cons.mpr ⟨lw_p1, List.forall_mem_cons.mpr ⟨lw_p2, List.forall_mem_cons.mpr ⟨lw_p3, List.forall_mem_cons.mpr ⟨lw_p4, List.forall_mem_cons.mpr ⟨lw_p5, List.forall_mem_cons.mpr ⟨lw_p6, List.forall_mem_cons.mpr ⟨lw_p7, List.forall_mem_cons.mpr ⟨lw_p8, List.forall_mem_cons.mpr ⟨lw_p9, List.forall_mem_cons.mpr ⟨lw_p10, List.forall_mem_cons.mpr ⟨lw_p11, List.forall_mem_cons.mpr ⟨lw_p12, List.forall_mem_cons.mpr ⟨lw_p13, List.forall_mem_cons.mpr ⟨lw_p14, List.forall_mem_cons.mpr ⟨lw_p15, fun _ h => absurd h List.not_mem_nil⟩⟩⟩⟩⟩⟩⟩⟩⟩⟩⟩⟩⟩⟩⟩⟩
theorem lw_p16 : lw_okq (⟨"PisteLine", "countSide", "(LPisteLine$Bout;I)V"⟩, 10) := ⟨⟨by decide +kernel, by decide +kernel⟩, List.mem_of_getElem? (i := 18) (by decide +kernel), List.mem_of_getElem? (i := 793) (by decide +kernel), List.mem_of_getElem? (i := 794) (by decide +kernel)⟩
theorem lw_p17 : lw_okq (⟨"PisteLine", "fencerInPlace", "(I)I"⟩, 10) := ⟨⟨by decide +kernel, by decide +kernel⟩, List.mem_of_getElem? (i := 18) (by decide +kernel), List.mem_of_getElem? (i := 820) (by decide +kernel), List.mem_of_getElem? (i := 821) (by decide +kernel)⟩
theorem lw_p18 : lw_okq (⟨"PisteLine", "fencersAhead", "(LPisteLine$Fencer;)I"⟩, 10) := ⟨⟨by decide +kernel, by decide +kernel⟩, List.mem_of_getElem? (i := 18) (by decide +kernel), List.mem_of_getElem? (i := 824) (by decide +kernel), List.mem_of_getElem? (i := 825) (by decide +kernel)⟩
theorem lw_p19 : lw_okq (⟨"PisteLine", "isAPoolBoutOpen", "()Z"⟩, 10) := ⟨⟨by decide +kernel, by decide +kernel⟩, List.mem_of_getElem? (i := 18) (by decide +kernel), List.mem_of_getElem? (i := 843) (by decide +kernel), List.mem_of_getElem? (i := 844) (by decide +kernel)⟩
theorem lw_p20 : lw_okq (⟨"PisteLine$Tableau", "laySeeds", "()V"⟩, 5) := ⟨⟨by decide +kernel, by decide +kernel⟩, List.mem_of_getElem? (i := 64) (by decide +kernel), List.mem_of_getElem? (i := 855) (by decide +kernel), List.mem_of_getElem? (i := 856) (by decide +kernel)⟩
theorem lw_p21 : lw_okq (⟨"PisteLineModel", "goes", "(ZZZ)Z"⟩, 34) := ⟨⟨by decide +kernel, by decide +kernel⟩, List.mem_of_getElem? (i := 872) (by decide +kernel), List.mem_of_getElem? (i := 990) (by decide +kernel), List.mem_of_getElem? (i := 991) (by decide +kernel)⟩
theorem lw_p22 : lw_okq (⟨"PisteLineModel", "isFencer", "(I)Z"⟩, 34) := ⟨⟨by decide +kernel, by decide +kernel⟩, List.mem_of_getElem? (i := 872) (by decide +kernel), List.mem_of_getElem? (i := 998) (by decide +kernel), List.mem_of_getElem? (i := 999) (by decide +kernel)⟩
theorem lw_p23 : lw_okq (⟨"PisteLineModel", "isWeapon", "(I)Z"⟩, 34) := ⟨⟨by decide +kernel, by decide +kernel⟩, List.mem_of_getElem? (i := 872) (by decide +kernel), List.mem_of_getElem? (i := 1009) (by decide +kernel), List.mem_of_getElem? (i := 1010) (by decide +kernel)⟩
theorem lw_p24 : lw_okq (⟨"PisteLineModel", "follows", "()V"⟩, 34) := ⟨⟨by decide +kernel, by decide +kernel⟩, List.mem_of_getElem? (i := 872) (by decide +kernel), List.mem_of_getElem? (i := 1013) (by decide +kernel), List.mem_of_getElem? (i := 1014) (by decide +kernel)⟩
theorem lw_p25 : lw_okq (⟨"PisteLineModel", "tells", "(I)V"⟩, 34) := ⟨⟨by decide +kernel, by decide +kernel⟩, List.mem_of_getElem? (i := 872) (by decide +kernel), List.mem_of_getElem? (i := 1017) (by decide +kernel), List.mem_of_getElem? (i := 1018) (by decide +kernel)⟩
theorem lw_p26 : lw_okq (⟨"PisteLineModel", "touched", "(II)I"⟩, 34) := ⟨⟨by decide +kernel, by decide +kernel⟩, List.mem_of_getElem? (i := 872) (by decide +kernel), List.mem_of_getElem? (i := 1021) (by decide +kernel), List.mem_of_getElem? (i := 1022) (by decide +kernel)⟩
theorem lw_p27 : lw_okq (⟨"PisteLineModel", "judged", "(I)I"⟩, 34) := ⟨⟨by decide +kernel, by decide +kernel⟩, List.mem_of_getElem? (i := 872) (by decide +kernel), List.mem_of_getElem? (i := 1025) (by decide +kernel), List.mem_of_getElem? (i := 1026) (by decide +kernel)⟩
theorem lw_p28 : lw_okq (⟨"PisteLineModel", "counts", "(II)Z"⟩, 34) := ⟨⟨by decide +kernel, by decide +kernel⟩, List.mem_of_getElem? (i := 872) (by decide +kernel), List.mem_of_getElem? (i := 1029) (by decide +kernel), List.mem_of_getElem? (i := 1030) (by decide +kernel)⟩
theorem lw_p29 : lw_okq (⟨"PisteLineModel", "strikes", "(IZ)Z"⟩, 34) := ⟨⟨by decide +kernel, by decide +kernel⟩, List.mem_of_getElem? (i := 872) (by decide +kernel), List.mem_of_getElem? (i := 1033) (by decide +kernel), List.mem_of_getElem? (i := 1034) (by decide +kernel)⟩
theorem lw_p30 : lw_okq (⟨"PisteLineModel", "isBout", "(I)Z"⟩, 34) := ⟨⟨by decide +kernel, by decide +kernel⟩, List.mem_of_getElem? (i := 872) (by decide +kernel), List.mem_of_getElem? (i := 1053) (by decide +kernel), List.mem_of_getElem? (i := 1054) (by decide +kernel)⟩
theorem lw_p31 : lw_okq (⟨"PisteLineModel", "fencerAt", "(II)I"⟩, 34) := ⟨⟨by decide +kernel, by decide +kernel⟩, List.mem_of_getElem? (i := 872) (by decide +kernel), List.mem_of_getElem? (i := 1057) (by decide +kernel), List.mem_of_getElem? (i := 1058) (by decide +kernel)⟩
def lw_privs_2 : List (MethodName × Nat) := [(⟨"PisteLine", "countSide", "(LPisteLine$Bout;I)V"⟩, 10), (⟨"PisteLine", "fencerInPlace", "(I)I"⟩, 10), (⟨"PisteLine", "fencersAhead", "(LPisteLine$Fencer;)I"⟩, 10), (⟨"PisteLine", "isAPoolBoutOpen", "()Z"⟩, 10), (⟨"PisteLine$Tableau", "laySeeds", "()V"⟩, 5), (⟨"PisteLineModel", "goes", "(ZZZ)Z"⟩, 34), (⟨"PisteLineModel", "isFencer", "(I)Z"⟩, 34), (⟨"PisteLineModel", "isWeapon", "(I)Z"⟩, 34), (⟨"PisteLineModel", "follows", "()V"⟩, 34), (⟨"PisteLineModel", "tells", "(I)V"⟩, 34), (⟨"PisteLineModel", "touched", "(II)I"⟩, 34), (⟨"PisteLineModel", "judged", "(I)I"⟩, 34), (⟨"PisteLineModel", "counts", "(II)Z"⟩, 34), (⟨"PisteLineModel", "strikes", "(IZ)Z"⟩, 34), (⟨"PisteLineModel", "isBout", "(I)Z"⟩, 34), (⟨"PisteLineModel", "fencerAt", "(II)I"⟩, 34)]
theorem lw_r2 : ∀ q ∈ lw_privs_2, lw_okq q := List.forall_mem_cons.mpr ⟨lw_p16, List.forall_mem_cons.mpr ⟨lw_p17, List.forall_mem_cons.mpr ⟨lw_p18, List.forall_mem_cons.mpr ⟨lw_p19, List.forall_mem_cons.mpr ⟨lw_p20, List.forall_mem_cons.mpr ⟨lw_p21, List.forall_mem_cons.mpr ⟨lw_p22, List.forall_mem_cons.mpr ⟨lw_p23, List.forall_mem_cons.mpr ⟨lw_p24, List.forall_mem_cons.mpr ⟨lw_p25, List.forall_mem_cons.mpr ⟨lw_p26, List.forall_mem_cons.mpr ⟨lw_p27, List.forall_mem_cons.mpr ⟨lw_p28, List.forall_mem_cons.mpr ⟨lw_p29, List.forall_mem_cons.mpr ⟨lw_p30, List.forall_mem_cons.mpr ⟨lw_p31, fun _ h => absurd h List.not_mem_nil⟩⟩⟩⟩⟩⟩⟩⟩⟩⟩⟩⟩⟩⟩⟩⟩
theorem lw_p32 : lw_okq (⟨"PisteLineModel", "winnerOf", "(I)I"⟩, 34) := ⟨⟨by decide +kernel, by decide +kernel⟩, List.mem_of_getElem? (i := 872) (by decide +kernel), List.mem_of_getElem? (i := 1061) (by decide +kernel), List.mem_of_getElem? (i := 1062) (by decide +kernel)⟩
theorem lw_p33 : lw_okq (⟨"PisteLineModel", "isFit", "(III)Z"⟩, 34) := ⟨⟨by decide +kernel, by decide +kernel⟩, List.mem_of_getElem? (i := 872) (by decide +kernel), List.mem_of_getElem? (i := 1065) (by decide +kernel), List.mem_of_getElem? (i := 1066) (by decide +kernel)⟩
theorem lw_p34 : lw_okq (⟨"PisteLineModel", "isTime", "(I)Z"⟩, 34) := ⟨⟨by decide +kernel, by decide +kernel⟩, List.mem_of_getElem? (i := 872) (by decide +kernel), List.mem_of_getElem? (i := 1087) (by decide +kernel), List.mem_of_getElem? (i := 1088) (by decide +kernel)⟩
theorem lw_p35 : lw_okq (⟨"PisteLineModel", "latest", "()I"⟩, 34) := ⟨⟨by decide +kernel, by decide +kernel⟩, List.mem_of_getElem? (i := 872) (by decide +kernel), List.mem_of_getElem? (i := 1091) (by decide +kernel), List.mem_of_getElem? (i := 1092) (by decide +kernel)⟩
theorem lw_p36 : lw_okq (⟨"PisteLineModel", "hears", "()Z"⟩, 34) := ⟨⟨by decide +kernel, by decide +kernel⟩, List.mem_of_getElem? (i := 872) (by decide +kernel), List.mem_of_getElem? (i := 1095) (by decide +kernel), List.mem_of_getElem? (i := 1096) (by decide +kernel)⟩
theorem lw_p37 : lw_okq (⟨"PisteLineModel", "event", "(II)I"⟩, 34) := ⟨⟨by decide +kernel, by decide +kernel⟩, List.mem_of_getElem? (i := 872) (by decide +kernel), List.mem_of_getElem? (i := 1099) (by decide +kernel), List.mem_of_getElem? (i := 1100) (by decide +kernel)⟩
theorem lw_p38 : lw_okq (⟨"PisteLineModel", "sums", "()V"⟩, 34) := ⟨⟨by decide +kernel, by decide +kernel⟩, List.mem_of_getElem? (i := 872) (by decide +kernel), List.mem_of_getElem? (i := 1168) (by decide +kernel), List.mem_of_getElem? (i := 1169) (by decide +kernel)⟩
theorem lw_p39 : lw_okq (⟨"PisteLineModel", "adds", "(IIIZ)V"⟩, 34) := ⟨⟨by decide +kernel, by decide +kernel⟩, List.mem_of_getElem? (i := 872) (by decide +kernel), List.mem_of_getElem? (i := 1172) (by decide +kernel), List.mem_of_getElem? (i := 1173) (by decide +kernel)⟩
theorem lw_p40 : lw_okq (⟨"PisteLineModel", "ranked", "(I)I"⟩, 34) := ⟨⟨by decide +kernel, by decide +kernel⟩, List.mem_of_getElem? (i := 872) (by decide +kernel), List.mem_of_getElem? (i := 1184) (by decide +kernel), List.mem_of_getElem? (i := 1185) (by decide +kernel)⟩
theorem lw_p41 : lw_okq (⟨"PisteLineModel", "isAhead", "(II)Z"⟩, 34) := ⟨⟨by decide +kernel, by decide +kernel⟩, List.mem_of_getElem? (i := 872) (by decide +kernel), List.mem_of_getElem? (i := 1188) (by decide +kernel), List.mem_of_getElem? (i := 1189) (by decide +kernel)⟩
theorem lw_p42 : lw_okq (⟨"PisteLineModel", "areDecided", "()Z"⟩, 34) := ⟨⟨by decide +kernel, by decide +kernel⟩, List.mem_of_getElem? (i := 872) (by decide +kernel), List.mem_of_getElem? (i := 1196) (by decide +kernel), List.mem_of_getElem? (i := 1197) (by decide +kernel)⟩
def lw_privs_3 : List (MethodName × Nat) := [(⟨"PisteLineModel", "winnerOf", "(I)I"⟩, 34), (⟨"PisteLineModel", "isFit", "(III)Z"⟩, 34), (⟨"PisteLineModel", "isTime", "(I)Z"⟩, 34), (⟨"PisteLineModel", "latest", "()I"⟩, 34), (⟨"PisteLineModel", "hears", "()Z"⟩, 34), (⟨"PisteLineModel", "event", "(II)I"⟩, 34), (⟨"PisteLineModel", "sums", "()V"⟩, 34), (⟨"PisteLineModel", "adds", "(IIIZ)V"⟩, 34), (⟨"PisteLineModel", "ranked", "(I)I"⟩, 34), (⟨"PisteLineModel", "isAhead", "(II)Z"⟩, 34), (⟨"PisteLineModel", "areDecided", "()Z"⟩, 34)]
theorem lw_r3 : ∀ q ∈ lw_privs_3, lw_okq q := List.forall_mem_cons.mpr ⟨lw_p32, List.forall_mem_cons.mpr ⟨lw_p33, List.forall_mem_cons.mpr ⟨lw_p34, List.forall_mem_cons.mpr ⟨lw_p35, List.forall_mem_cons.mpr ⟨lw_p36, List.forall_mem_cons.mpr ⟨lw_p37, List.forall_mem_cons.mpr ⟨lw_p38, List.forall_mem_cons.mpr ⟨lw_p39, List.forall_mem_cons.mpr ⟨lw_p40, List.forall_mem_cons.mpr ⟨lw_p41, List.forall_mem_cons.mpr ⟨lw_p42, fun _ h => absurd h List.not_mem_nil⟩⟩⟩⟩⟩⟩⟩⟩⟩⟩⟩
def lw_privs : List (MethodName × Nat) := lw_privs_1 ++ (lw_privs_2 ++ (lw_privs_3))
def lw_tbl : List Cond := k2_sels lw_privs ++ tables_1
theorem lw_privs_ok : ∀ q ∈ lw_privs, lw_okq q := by
  show ∀ q ∈ lw_privs_1 ++ (lw_privs_2 ++ (lw_privs_3)), lw_okq q
  exact List.forall_mem_append.mpr ⟨lw_r1, List.forall_mem_append.mpr ⟨lw_r2, lw_r3⟩⟩
-- ===== end of PART A; then your names; then what follows =====
/-! ===== BEGIN printed: names, fields, word lists, decode rows ===== -/
def RX0 : String := "PisteLine$Bout"
def TX0 : u_T := fun k => match k with
  | 0 => ("PisteLine$Bout", "isOfPool", "Z", true)
  | 1 => ("PisteLine$Bout", "first", "I", false)
  | 2 => ("PisteLine$Bout", "second", "I", false)
  | 3 => ("PisteLine$Bout", "row", "[LPisteLine$Phrase;", true)
  | 4 => ("PisteLine$Bout", "ended", "I", false)
  | 5 => ("PisteLine$Bout", "appealsOfFirst", "I", false)
  | 6 => ("PisteLine$Bout", "appealsOfSecond", "I", false)
  | _ => ("PisteLine$Bout", "kept", "LPisteLine$Tally;", true)
def tyX0 : Nat → FieldType := fun k => match k with
  | 0 => .boolean
  | 1 => .int
  | 2 => .int
  | 3 => .array (.object "PisteLine$Phrase")
  | 4 => .int
  | 5 => .int
  | 6 => .int
  | _ => .object "PisteLine$Tally"
abbrev wsX00 : List Cond := u_ws RX0 TX0 8
theorem nmX0 : ∀ a, a < 8 → ∀ b, b < 8 → a ≠ b → (TX0 a).2.1 ≠ (TX0 b).2.1 := by decide +kernel
theorem tyX0_ok : ∀ k, k < 8 → parseFieldDescriptor (TX0 k).2.2.1 = some (tyX0 k) := by decide +kernel
abbrev cX0_init : ByteArray := prog_2_method_1_code
def yX0_init : MethodName := ⟨RX0, "<init>", "(ZII)V"⟩
abbrev cX0_fencerAt : ByteArray := prog_2_method_2_code
def yX0_fencerAt : MethodName := ⟨RX0, "fencerAt", "(I)I"⟩
abbrev cX0_phraseAt : ByteArray := prog_2_method_3_code
def yX0_phraseAt : MethodName := ⟨RX0, "phraseAt", "(I)LPisteLine$Phrase;"⟩
abbrev cX0_keep : ByteArray := prog_2_method_4_code
def yX0_keep : MethodName := ⟨RX0, "keep", "(LPisteLine$Phrase;)V"⟩
abbrev cX0_forget : ByteArray := prog_2_method_5_code
def yX0_forget : MethodName := ⟨RX0, "forget", "()V"⟩
abbrev cX0_touchesLeft : ByteArray := prog_2_method_6_code
def yX0_touchesLeft : MethodName := ⟨RX0, "touchesLeft", "(LPisteLine$Phrase;)I"⟩
abbrev cX0_recount : ByteArray := prog_2_method_7_code
def yX0_recount : MethodName := ⟨RX0, "recount", "()V"⟩
abbrev cX0_countAnew : ByteArray := prog_2_method_8_code
def yX0_countAnew : MethodName := ⟨RX0, "countAnew", "(LPisteLine$Tally;)V"⟩
abbrev cX0_appealsLeft : ByteArray := prog_2_method_9_code
def yX0_appealsLeft : MethodName := ⟨RX0, "appealsLeft", "(I)I"⟩
abbrev cX0_useAppeal : ByteArray := prog_2_method_10_code
def yX0_useAppeal : MethodName := ⟨RX0, "useAppeal", "(I)V"⟩
abbrev cX0_winningSide : ByteArray := prog_2_method_11_code
def yX0_winningSide : MethodName := ⟨RX0, "winningSide", "()I"⟩
abbrev cX0_winningFencer : ByteArray := prog_2_method_12_code
def yX0_winningFencer : MethodName := ⟨RX0, "winningFencer", "()I"⟩
abbrev cX0_canBeFenced : ByteArray := prog_2_method_13_code
def yX0_canBeFenced : MethodName := ⟨RX0, "canBeFenced", "()Z"⟩
def RX1 : String := "PisteLine$Fencer"
def TX1 : u_T := fun k => match k with
  | 0 => ("PisteLine$Fencer", "number", "I", true)
  | 1 => ("PisteLine$Fencer", "bouts", "I", false)
  | 2 => ("PisteLine$Fencer", "victories", "I", false)
  | 3 => ("PisteLine$Fencer", "given", "I", false)
  | _ => ("PisteLine$Fencer", "got", "I", false)
def tyX1 : Nat → FieldType := fun k => match k with
  | 0 => .int
  | 1 => .int
  | 2 => .int
  | 3 => .int
  | _ => .int
abbrev wsX10 : List Cond := u_ws RX1 TX1 5
theorem nmX1 : ∀ a, a < 5 → ∀ b, b < 5 → a ≠ b → (TX1 a).2.1 ≠ (TX1 b).2.1 := by decide +kernel
theorem tyX1_ok : ∀ k, k < 5 → parseFieldDescriptor (TX1 k).2.2.1 = some (tyX1 k) := by decide +kernel
abbrev cX1_init : ByteArray := prog_3_method_1_code
def yX1_init : MethodName := ⟨RX1, "<init>", "(I)V"⟩
abbrev cX1_clear : ByteArray := prog_3_method_2_code
def yX1_clear : MethodName := ⟨RX1, "clear", "()V"⟩
abbrev cX1_add : ByteArray := prog_3_method_3_code
def yX1_add : MethodName := ⟨RX1, "add", "(IIZ)V"⟩
abbrev cX1_difference : ByteArray := prog_3_method_4_code
def yX1_difference : MethodName := ⟨RX1, "difference", "()I"⟩
abbrev cX1_isAheadOf : ByteArray := prog_3_method_5_code
def yX1_isAheadOf : MethodName := ⟨RX1, "isAheadOf", "(LPisteLine$Fencer;)Z"⟩
def RX2 : String := "PisteLine$Phrase"
def TX2 : u_T := fun k => match k with
  | 0 => ("PisteLine$Phrase", "isFoil", "Z", true)
  | 1 => ("PisteLine$Phrase", "first", "LPisteLine$Weapon;", true)
  | 2 => ("PisteLine$Phrase", "second", "LPisteLine$Weapon;", true)
  | 3 => ("PisteLine$Phrase", "kinds", "[I", true)
  | 4 => ("PisteLine$Phrase", "sides", "[I", true)
  | 5 => ("PisteLine$Phrase", "times", "[I", true)
  | 6 => ("PisteLine$Phrase", "events", "I", false)
  | 7 => ("PisteLine$Phrase", "hasBenchTold", "Z", false)
  | 8 => ("PisteLine$Phrase", "benchRight", "I", false)
  | _ => ("PisteLine$Phrase", "given", "I", false)
def tyX2 : Nat → FieldType := fun k => match k with
  | 0 => .boolean
  | 1 => .object "PisteLine$Weapon"
  | 2 => .object "PisteLine$Weapon"
  | 3 => .array .int
  | 4 => .array .int
  | 5 => .array .int
  | 6 => .int
  | 7 => .boolean
  | 8 => .int
  | _ => .int
abbrev wsX20 : List Cond := u_ws RX2 TX2 10
theorem nmX2 : ∀ a, a < 10 → ∀ b, b < 10 → a ≠ b → (TX2 a).2.1 ≠ (TX2 b).2.1 := by decide +kernel
theorem tyX2_ok : ∀ k, k < 10 → parseFieldDescriptor (TX2 k).2.2.1 = some (tyX2 k) := by decide +kernel
abbrev cX2_init : ByteArray := prog_4_method_1_code
def yX2_init : MethodName := ⟨RX2, "<init>", "(ZLPisteLine$Weapon;LPisteLine$Weapon;)V"⟩
abbrev cX2_isFull : ByteArray := prog_4_method_2_code
def yX2_isFull : MethodName := ⟨RX2, "isFull", "()Z"⟩
abbrev cX2_latestTime : ByteArray := prog_4_method_3_code
def yX2_latestTime : MethodName := ⟨RX2, "latestTime", "()I"⟩
abbrev cX2_hear : ByteArray := prog_4_method_4_code
def yX2_hear : MethodName := ⟨RX2, "hear", "(III)V"⟩
abbrev cX2_tellRight : ByteArray := prog_4_method_5_code
def yX2_tellRight : MethodName := ⟨RX2, "tellRight", "(I)V"⟩
abbrev cX2_judge : ByteArray := prog_4_method_6_code
def yX2_judge : MethodName := ⟨RX2, "judge", "()I"⟩
abbrev cX2_withoutStruck : ByteArray := prog_4_method_7_code
def yX2_withoutStruck : MethodName := ⟨RX2, "withoutStruck", "(IZ)I"⟩
abbrev cX2_isALight : ByteArray := prog_4_method_8_code
def yX2_isALight : MethodName := ⟨RX2, "isALight", "(I)Z"⟩
abbrev cX2_firstLight : ByteArray := prog_4_method_9_code
def yX2_firstLight : MethodName := ⟨RX2, "firstLight", "()I"⟩
abbrev cX2_otherLight : ByteArray := prog_4_method_10_code
def yX2_otherLight : MethodName := ⟨RX2, "otherLight", "(I)I"⟩
abbrev cX2_rightAt : ByteArray := prog_4_method_11_code
def yX2_rightAt : MethodName := ⟨RX2, "rightAt", "(I)I"⟩
abbrev cX2_touchOf : ByteArray := prog_4_method_12_code
def yX2_touchOf : MethodName := ⟨RX2, "touchOf", "(I)I"⟩
def RX3 : String := "PisteLine$Piste"
def TX3 : u_T := fun k => match k with
  | 0 => ("PisteLine$Piste", "number", "I", false)
  | 1 => ("PisteLine$Piste", "bout", "LPisteLine$Bout;", false)
  | 2 => ("PisteLine$Piste", "first", "LPisteLine$Weapon;", false)
  | 3 => ("PisteLine$Piste", "second", "LPisteLine$Weapon;", false)
  | 4 => ("PisteLine$Piste", "running", "LPisteLine$Phrase;", false)
  | _ => ("PisteLine$Piste", "hasEnded", "Z", false)
def tyX3 : Nat → FieldType := fun k => match k with
  | 0 => .int
  | 1 => .object "PisteLine$Bout"
  | 2 => .object "PisteLine$Weapon"
  | 3 => .object "PisteLine$Weapon"
  | 4 => .object "PisteLine$Phrase"
  | _ => .boolean
abbrev wsX30 : List Cond := u_ws RX3 TX3 6
theorem nmX3 : ∀ a, a < 6 → ∀ b, b < 6 → a ≠ b → (TX3 a).2.1 ≠ (TX3 b).2.1 := by decide +kernel
theorem tyX3_ok : ∀ k, k < 6 → parseFieldDescriptor (TX3 k).2.2.1 = some (tyX3 k) := by decide +kernel
abbrev cX3_init : ByteArray := prog_5_method_1_code
def yX3_init : MethodName := ⟨RX3, "<init>", "()V"⟩
abbrev cX3_take : ByteArray := prog_5_method_2_code
def yX3_take : MethodName := ⟨RX3, "take", "(ILPisteLine$Bout;LPisteLine$Weapon;LPisteLine$Weapon;)V"⟩
abbrev cX3_empty : ByteArray := prog_5_method_3_code
def yX3_empty : MethodName := ⟨RX3, "empty", "()V"⟩
abbrev cX3_weaponNumber : ByteArray := prog_5_method_4_code
def yX3_weaponNumber : MethodName := ⟨RX3, "weaponNumber", "(I)I"⟩
abbrev cX3_arm : ByteArray := prog_5_method_5_code
def yX3_arm : MethodName := ⟨RX3, "arm", "(ILPisteLine$Weapon;)V"⟩
def RX4 : String := "PisteLine$Tableau"
def TX4 : u_T := fun k => match k with
  | 0 => ("PisteLine$Tableau", "extent", "I", false)
  | 1 => ("PisteLine$Tableau", "goneBouts", "I", false)
  | 2 => ("PisteLine$Tableau", "seeds", "[I", true)
  | 3 => ("PisteLine$Tableau", "winners", "[I", true)
  | _ => ("PisteLine$Tableau", "bouts", "[LPisteLine$Bout;", true)
def tyX4 : Nat → FieldType := fun k => match k with
  | 0 => .int
  | 1 => .int
  | 2 => .array .int
  | 3 => .array .int
  | _ => .array (.object "PisteLine$Bout")
abbrev wsX40 : List Cond := u_ws RX4 TX4 5
theorem nmX4 : ∀ a, a < 5 → ∀ b, b < 5 → a ≠ b → (TX4 a).2.1 ≠ (TX4 b).2.1 := by decide +kernel
theorem tyX4_ok : ∀ k, k < 5 → parseFieldDescriptor (TX4 k).2.2.1 = some (tyX4 k) := by decide +kernel
abbrev cX4_init : ByteArray := prog_6_method_1_code
def yX4_init : MethodName := ⟨RX4, "<init>", "()V"⟩
abbrev cX4_isDrawn : ByteArray := prog_6_method_2_code
def yX4_isDrawn : MethodName := ⟨RX4, "isDrawn", "()Z"⟩
abbrev cX4_hasNode : ByteArray := prog_6_method_3_code
def yX4_hasNode : MethodName := ⟨RX4, "hasNode", "(I)Z"⟩
abbrev cX4_winnerAt : ByteArray := prog_6_method_4_code
def yX4_winnerAt : MethodName := ⟨RX4, "winnerAt", "(I)I"⟩
abbrev cX4_boutAt : ByteArray := prog_6_method_5_code
def yX4_boutAt : MethodName := ⟨RX4, "boutAt", "(I)LPisteLine$Bout;"⟩
abbrev cX4_lay : ByteArray := prog_6_method_6_code
def yX4_lay : MethodName := ⟨RX4, "lay", "(I)V"⟩
abbrev cX4_laySeeds : ByteArray := prog_6_method_7_code
def yX4_laySeeds : MethodName := ⟨RX4, "laySeeds", "()V"⟩
abbrev cX4_seat : ByteArray := prog_6_method_8_code
def yX4_seat : MethodName := ⟨RX4, "seat", "(II)V"⟩
abbrev cX4_recount : ByteArray := prog_6_method_9_code
def yX4_recount : MethodName := ⟨RX4, "recount", "()V"⟩
abbrev cX4_settle : ByteArray := prog_6_method_10_code
def yX4_settle : MethodName := ⟨RX4, "settle", "(LPisteLine$Piste;)V"⟩
abbrev cX4_winnerNow : ByteArray := prog_6_method_11_code
def yX4_winnerNow : MethodName := ⟨RX4, "winnerNow", "(ILPisteLine$Bout;)I"⟩
abbrev cX4_drop : ByteArray := prog_6_method_12_code
def yX4_drop : MethodName := ⟨RX4, "drop", "(LPisteLine$Bout;LPisteLine$Piste;)V"⟩
def RX5 : String := "PisteLine$Tally"
def TX5 : u_T := fun k => match k with
  | 0 => ("PisteLine$Tally", "goal", "I", false)
  | 1 => ("PisteLine$Tally", "first", "I", false)
  | _ => ("PisteLine$Tally", "second", "I", false)
def tyX5 : Nat → FieldType := fun k => match k with
  | 0 => .int
  | 1 => .int
  | _ => .int
abbrev wsX50 : List Cond := u_ws RX5 TX5 3
theorem nmX5 : ∀ a, a < 3 → ∀ b, b < 3 → a ≠ b → (TX5 a).2.1 ≠ (TX5 b).2.1 := by decide +kernel
theorem tyX5_ok : ∀ k, k < 3 → parseFieldDescriptor (TX5 k).2.2.1 = some (tyX5 k) := by decide +kernel
abbrev cX5_init : ByteArray := prog_7_method_1_code
def yX5_init : MethodName := ⟨RX5, "<init>", "()V"⟩
abbrev cX5_restart : ByteArray := prog_7_method_2_code
def yX5_restart : MethodName := ⟨RX5, "restart", "(I)V"⟩
abbrev cX5_isAtGoal : ByteArray := prog_7_method_3_code
def yX5_isAtGoal : MethodName := ⟨RX5, "isAtGoal", "()Z"⟩
abbrev cX5_add : ByteArray := prog_7_method_4_code
def yX5_add : MethodName := ⟨RX5, "add", "(I)V"⟩
abbrev cX5_of : ByteArray := prog_7_method_5_code
def yX5_of : MethodName := ⟨RX5, "of", "(I)I"⟩
def RX6 : String := "PisteLine$Weapon"
def TX6 : u_T := fun k => match k with
  | 0 => ("PisteLine$Weapon", "number", "I", true)
  | 1 => ("PisteLine$Weapon", "holder", "I", true)
  | 2 => ("PisteLine$Weapon", "state", "I", false)
  | _ => ("PisteLine$Weapon", "hasFailedInPools", "Z", false)
def tyX6 : Nat → FieldType := fun k => match k with
  | 0 => .int
  | 1 => .int
  | 2 => .int
  | _ => .boolean
abbrev wsX60 : List Cond := u_ws RX6 TX6 4
theorem nmX6 : ∀ a, a < 4 → ∀ b, b < 4 → a ≠ b → (TX6 a).2.1 ≠ (TX6 b).2.1 := by decide +kernel
theorem tyX6_ok : ∀ k, k < 4 → parseFieldDescriptor (TX6 k).2.2.1 = some (tyX6 k) := by decide +kernel
abbrev cX6_init : ByteArray := prog_8_method_1_code
def yX6_init : MethodName := ⟨RX6, "<init>", "(II)V"⟩
abbrev cX6_isMarkedFor : ByteArray := prog_8_method_2_code
def yX6_isMarkedFor : MethodName := ⟨RX6, "isMarkedFor", "(I)Z"⟩
abbrev cX6_isFalse : ByteArray := prog_8_method_3_code
def yX6_isFalse : MethodName := ⟨RX6, "isFalse", "(Z)Z"⟩
def RX7 : String := "PisteLine"
def TX7 : u_T := fun k => match k with
  | 0 => ("PisteLine", "isFoil", "Z", true)
  | 1 => ("PisteLine", "fencerRow", "[LPisteLine$Fencer;", true)
  | 2 => ("PisteLine", "fencerCount", "I", false)
  | 3 => ("PisteLine", "weaponRow", "[LPisteLine$Weapon;", true)
  | 4 => ("PisteLine", "weaponCount", "I", false)
  | 5 => ("PisteLine", "poolRow", "[LPisteLine$Bout;", true)
  | 6 => ("PisteLine", "poolBoutCount", "I", false)
  | 7 => ("PisteLine", "ground", "LPisteLine$Piste;", true)
  | 8 => ("PisteLine", "tableau", "LPisteLine$Tableau;", true)
  | _ => ("PisteLine", "tallyAnew", "LPisteLine$Tally;", true)
def tyX7 : Nat → FieldType := fun k => match k with
  | 0 => .boolean
  | 1 => .array (.object "PisteLine$Fencer")
  | 2 => .int
  | 3 => .array (.object "PisteLine$Weapon")
  | 4 => .int
  | 5 => .array (.object "PisteLine$Bout")
  | 6 => .int
  | 7 => .object "PisteLine$Piste"
  | 8 => .object "PisteLine$Tableau"
  | _ => .object "PisteLine$Tally"
abbrev wsX70 : List Cond := u_ws RX7 TX7 10
theorem nmX7 : ∀ a, a < 10 → ∀ b, b < 10 → a ≠ b → (TX7 a).2.1 ≠ (TX7 b).2.1 := by decide +kernel
theorem tyX7_ok : ∀ k, k < 10 → parseFieldDescriptor (TX7 k).2.2.1 = some (tyX7 k) := by decide +kernel
abbrev cX7_init : ByteArray := prog_1_method_1_code
def yX7_init : MethodName := ⟨RX7, "<init>", "(I)V"⟩
abbrev cX7_fencer : ByteArray := prog_1_method_2_code
def yX7_fencer : MethodName := ⟨RX7, "fencer", "()I"⟩
abbrev cX7_weapon : ByteArray := prog_1_method_3_code
def yX7_weapon : MethodName := ⟨RX7, "weapon", "(I)I"⟩
abbrev cX7_test : ByteArray := prog_1_method_4_code
def yX7_test : MethodName := ⟨RX7, "test", "(III)Z"⟩
abbrev cX7_fencers : ByteArray := prog_1_method_5_code
def yX7_fencers : MethodName := ⟨RX7, "fencers", "()I"⟩
abbrev cX7_mark : ByteArray := prog_1_method_6_code
def yX7_mark : MethodName := ⟨RX7, "mark", "(I)I"⟩
abbrev cX7_owner : ByteArray := prog_1_method_7_code
def yX7_owner : MethodName := ⟨RX7, "owner", "(I)I"⟩
abbrev cX7_begin : ByteArray := prog_1_method_8_code
def yX7_begin : MethodName := ⟨RX7, "begin", "(III)I"⟩
abbrev cX7_change : ByteArray := prog_1_method_9_code
def yX7_change : MethodName := ⟨RX7, "change", "(II)I"⟩
abbrev cX7_allez : ByteArray := prog_1_method_10_code
def yX7_allez : MethodName := ⟨RX7, "allez", "()I"⟩
abbrev cX7_contact : ByteArray := prog_1_method_11_code
def yX7_contact : MethodName := ⟨RX7, "contact", "(IZI)I"⟩
abbrev cX7_right : ByteArray := prog_1_method_12_code
def yX7_right : MethodName := ⟨RX7, "right", "(II)I"⟩
abbrev cX7_halt : ByteArray := prog_1_method_13_code
def yX7_halt : MethodName := ⟨RX7, "halt", "()I"⟩
abbrev cX7_appeal : ByteArray := prog_1_method_14_code
def yX7_appeal : MethodName := ⟨RX7, "appeal", "(II)I"⟩
abbrev cX7_piste : ByteArray := prog_1_method_15_code
def yX7_piste : MethodName := ⟨RX7, "piste", "()I"⟩
abbrev cX7_isFencing : ByteArray := prog_1_method_16_code
def yX7_isFencing : MethodName := ⟨RX7, "isFencing", "()Z"⟩
abbrev cX7_weaponOf : ByteArray := prog_1_method_17_code
def yX7_weaponOf : MethodName := ⟨RX7, "weaponOf", "(I)I"⟩
abbrev cX7_fencerOf : ByteArray := prog_1_method_18_code
def yX7_fencerOf : MethodName := ⟨RX7, "fencerOf", "(II)I"⟩
abbrev cX7_score : ByteArray := prog_1_method_19_code
def yX7_score : MethodName := ⟨RX7, "score", "(II)I"⟩
abbrev cX7_scoreAnew : ByteArray := prog_1_method_20_code
def yX7_scoreAnew : MethodName := ⟨RX7, "scoreAnew", "(II)I"⟩
abbrev cX7_winner : ByteArray := prog_1_method_21_code
def yX7_winner : MethodName := ⟨RX7, "winner", "(I)I"⟩
abbrev cX7_phrases : ByteArray := prog_1_method_22_code
def yX7_phrases : MethodName := ⟨RX7, "phrases", "(I)I"⟩
abbrev cX7_touches : ByteArray := prog_1_method_23_code
def yX7_touches : MethodName := ⟨RX7, "touches", "(II)I"⟩
abbrev cX7_appeals : ByteArray := prog_1_method_24_code
def yX7_appeals : MethodName := ⟨RX7, "appeals", "(II)I"⟩
abbrev cX7_drawPools : ByteArray := prog_1_method_25_code
def yX7_drawPools : MethodName := ⟨RX7, "drawPools", "(I)I"⟩
abbrev cX7_poolBouts : ByteArray := prog_1_method_26_code
def yX7_poolBouts : MethodName := ⟨RX7, "poolBouts", "()I"⟩
abbrev cX7_won : ByteArray := prog_1_method_27_code
def yX7_won : MethodName := ⟨RX7, "won", "(I)I"⟩
abbrev cX7_index : ByteArray := prog_1_method_28_code
def yX7_index : MethodName := ⟨RX7, "index", "(I)I"⟩
abbrev cX7_rankedAt : ByteArray := prog_1_method_29_code
def yX7_rankedAt : MethodName := ⟨RX7, "rankedAt", "(I)I"⟩
abbrev cX7_drawTableau : ByteArray := prog_1_method_30_code
def yX7_drawTableau : MethodName := ⟨RX7, "drawTableau", "()I"⟩
abbrev cX7_size : ByteArray := prog_1_method_31_code
def yX7_size : MethodName := ⟨RX7, "size", "()I"⟩
abbrev cX7_nodeWinner : ByteArray := prog_1_method_32_code
def yX7_nodeWinner : MethodName := ⟨RX7, "nodeWinner", "(I)I"⟩
abbrev cX7_gone : ByteArray := prog_1_method_33_code
def yX7_gone : MethodName := ⟨RX7, "gone", "()I"⟩
abbrev cX7_isSide : ByteArray := prog_1_method_34_code
def yX7_isSide : MethodName := ⟨RX7, "isSide", "(I)Z"⟩
abbrev cX7_isSideOrNone : ByteArray := prog_1_method_35_code
def yX7_isSideOrNone : MethodName := ⟨RX7, "isSideOrNone", "(I)Z"⟩
abbrev cX7_isTooEarly : ByteArray := prog_1_method_36_code
def yX7_isTooEarly : MethodName := ⟨RX7, "isTooEarly", "(I)Z"⟩
abbrev cX7_arePoolsDrawn : ByteArray := prog_1_method_37_code
def yX7_arePoolsDrawn : MethodName := ⟨RX7, "arePoolsDrawn", "()Z"⟩
abbrev cX7_fencerAt : ByteArray := prog_1_method_38_code
def yX7_fencerAt : MethodName := ⟨RX7, "fencerAt", "(I)LPisteLine$Fencer;"⟩
abbrev cX7_weaponAt : ByteArray := prog_1_method_39_code
def yX7_weaponAt : MethodName := ⟨RX7, "weaponAt", "(I)LPisteLine$Weapon;"⟩
abbrev cX7_boutAt : ByteArray := prog_1_method_40_code
def yX7_boutAt : MethodName := ⟨RX7, "boutAt", "(I)LPisteLine$Bout;"⟩
abbrev cX7_fail : ByteArray := prog_1_method_41_code
def yX7_fail : MethodName := ⟨RX7, "fail", "(LPisteLine$Weapon;)V"⟩
abbrev cX7_drawPool : ByteArray := prog_1_method_42_code
def yX7_drawPool : MethodName := ⟨RX7, "drawPool", "(II)V"⟩
abbrev cX7_isAPoolBoutOpen : ByteArray := prog_1_method_43_code
def yX7_isAPoolBoutOpen : MethodName := ⟨RX7, "isAPoolBoutOpen", "()Z"⟩
abbrev cX7_countPools : ByteArray := prog_1_method_44_code
def yX7_countPools : MethodName := ⟨RX7, "countPools", "()V"⟩
abbrev cX7_countSide : ByteArray := prog_1_method_45_code
def yX7_countSide : MethodName := ⟨RX7, "countSide", "(LPisteLine$Bout;I)V"⟩
abbrev cX7_fencerInPlace : ByteArray := prog_1_method_46_code
def yX7_fencerInPlace : MethodName := ⟨RX7, "fencerInPlace", "(I)I"⟩
abbrev cX7_fencersAhead : ByteArray := prog_1_method_47_code
def yX7_fencersAhead : MethodName := ⟨RX7, "fencersAhead", "(LPisteLine$Fencer;)I"⟩
def RX8 : String := "PisteLineModel"
def TX8 : u_T := fun k => match k with
  | 0 => ("PisteLineModel", "foil", "Z", true)
  | 1 => ("PisteLineModel", "fencers", "I", false)
  | 2 => ("PisteLineModel", "owners", "[I", true)
  | 3 => ("PisteLineModel", "marks", "[I", true)
  | 4 => ("PisteLineModel", "early", "[Z", true)
  | 5 => ("PisteLineModel", "weapons", "I", false)
  | 6 => ("PisteLineModel", "firsts", "[I", true)
  | 7 => ("PisteLineModel", "seconds", "[I", true)
  | 8 => ("PisteLineModel", "pools", "I", false)
  | 9 => ("PisteLineModel", "bouts", "I", false)
  | 10 => ("PisteLineModel", "ended", "[I", true)
  | 11 => ("PisteLineModel", "used", "[I", true)
  | 12 => ("PisteLineModel", "counts", "[I", true)
  | 13 => ("PisteLineModel", "arms", "[I", true)
  | 14 => ("PisteLineModel", "bench", "[I", true)
  | 15 => ("PisteLineModel", "codes", "[I", true)
  | 16 => ("PisteLineModel", "times", "[I", true)
  | 17 => ("PisteLineModel", "piste", "I", false)
  | 18 => ("PisteLineModel", "held", "[I", true)
  | 19 => ("PisteLineModel", "on", "Z", false)
  | 20 => ("PisteLineModel", "fresh", "Z", false)
  | 21 => ("PisteLineModel", "size", "I", false)
  | 22 => ("PisteLineModel", "winners", "[I", true)
  | 23 => ("PisteLineModel", "changed", "[Z", true)
  | 24 => ("PisteLineModel", "gone", "I", false)
  | 25 => ("PisteLineModel", "one", "I", false)
  | 26 => ("PisteLineModel", "other", "I", false)
  | 27 => ("PisteLineModel", "won", "I", false)
  | 28 => ("PisteLineModel", "seeds", "[I", true)
  | 29 => ("PisteLineModel", "fought", "[I", true)
  | 30 => ("PisteLineModel", "wins", "[I", true)
  | 31 => ("PisteLineModel", "given", "[I", true)
  | 32 => ("PisteLineModel", "got", "[I", true)
  | _ => ("PisteLineModel", "last", "I", false)
def tyX8 : Nat → FieldType := fun k => match k with
  | 0 => .boolean
  | 1 => .int
  | 2 => .array .int
  | 3 => .array .int
  | 4 => .array .boolean
  | 5 => .int
  | 6 => .array .int
  | 7 => .array .int
  | 8 => .int
  | 9 => .int
  | 10 => .array .int
  | 11 => .array .int
  | 12 => .array .int
  | 13 => .array .int
  | 14 => .array .int
  | 15 => .array .int
  | 16 => .array .int
  | 17 => .int
  | 18 => .array .int
  | 19 => .boolean
  | 20 => .boolean
  | 21 => .int
  | 22 => .array .int
  | 23 => .array .boolean
  | 24 => .int
  | 25 => .int
  | 26 => .int
  | 27 => .int
  | 28 => .array .int
  | 29 => .array .int
  | 30 => .array .int
  | 31 => .array .int
  | 32 => .array .int
  | _ => .int
abbrev wsX80 : List Cond := u_ws RX8 TX8 34
theorem nmX8 : ∀ a, a < 34 → ∀ b, b < 34 → a ≠ b → (TX8 a).2.1 ≠ (TX8 b).2.1 := by decide +kernel
theorem tyX8_ok : ∀ k, k < 34 → parseFieldDescriptor (TX8 k).2.2.1 = some (tyX8 k) := by decide +kernel
abbrev cX8_init : ByteArray := prog_10_method_1_code
def yX8_init : MethodName := ⟨RX8, "<init>", "(I)V"⟩
abbrev cX8_thrown : ByteArray := prog_10_method_2_code
def yX8_thrown : MethodName := ⟨RX8, "thrown", "()I"⟩
abbrev cX8_in : ByteArray := prog_10_method_3_code
def yX8_in : MethodName := ⟨RX8, "in", "(III)Z"⟩
abbrev cX8_goes : ByteArray := prog_10_method_4_code
def yX8_goes : MethodName := ⟨RX8, "goes", "(ZZZ)Z"⟩
abbrev cX8_isFencer : ByteArray := prog_10_method_5_code
def yX8_isFencer : MethodName := ⟨RX8, "isFencer", "(I)Z"⟩
abbrev cX8_isWeapon : ByteArray := prog_10_method_6_code
def yX8_isWeapon : MethodName := ⟨RX8, "isWeapon", "(I)Z"⟩
abbrev cX8_isSide : ByteArray := prog_10_method_7_code
def yX8_isSide : MethodName := ⟨RX8, "isSide", "(I)Z"⟩
abbrev cX8_isBout : ByteArray := prog_10_method_8_code
def yX8_isBout : MethodName := ⟨RX8, "isBout", "(I)Z"⟩
abbrev cX8_slotOf : ByteArray := prog_10_method_9_code
def yX8_slotOf : MethodName := ⟨RX8, "slotOf", "(I)I"⟩
abbrev cX8_fencer : ByteArray := prog_10_method_10_code
def yX8_fencer : MethodName := ⟨RX8, "fencer", "()I"⟩
abbrev cX8_weapon : ByteArray := prog_10_method_11_code
def yX8_weapon : MethodName := ⟨RX8, "weapon", "(I)I"⟩
abbrev cX8_test : ByteArray := prog_10_method_12_code
def yX8_test : MethodName := ⟨RX8, "test", "(III)Z"⟩
abbrev cX8_fencers : ByteArray := prog_10_method_13_code
def yX8_fencers : MethodName := ⟨RX8, "fencers", "()I"⟩
abbrev cX8_mark : ByteArray := prog_10_method_14_code
def yX8_mark : MethodName := ⟨RX8, "mark", "(I)I"⟩
abbrev cX8_owner : ByteArray := prog_10_method_15_code
def yX8_owner : MethodName := ⟨RX8, "owner", "(I)I"⟩
abbrev cX8_counts : ByteArray := prog_10_method_16_code
def yX8_counts : MethodName := ⟨RX8, "counts", "(II)Z"⟩
abbrev cX8_judged : ByteArray := prog_10_method_17_code
def yX8_judged : MethodName := ⟨RX8, "judged", "(I)I"⟩
abbrev cX8_strikes : ByteArray := prog_10_method_18_code
def yX8_strikes : MethodName := ⟨RX8, "strikes", "(IZ)Z"⟩
abbrev cX8_touched : ByteArray := prog_10_method_19_code
def yX8_touched : MethodName := ⟨RX8, "touched", "(II)I"⟩
abbrev cX8_tells : ByteArray := prog_10_method_20_code
def yX8_tells : MethodName := ⟨RX8, "tells", "(I)V"⟩
abbrev cX8_follows : ByteArray := prog_10_method_21_code
def yX8_follows : MethodName := ⟨RX8, "follows", "()V"⟩
abbrev cX8_fencerAt : ByteArray := prog_10_method_22_code
def yX8_fencerAt : MethodName := ⟨RX8, "fencerAt", "(II)I"⟩
abbrev cX8_winnerOf : ByteArray := prog_10_method_23_code
def yX8_winnerOf : MethodName := ⟨RX8, "winnerOf", "(I)I"⟩
abbrev cX8_isFit : ByteArray := prog_10_method_24_code
def yX8_isFit : MethodName := ⟨RX8, "isFit", "(III)Z"⟩
abbrev cX8_begin : ByteArray := prog_10_method_25_code
def yX8_begin : MethodName := ⟨RX8, "begin", "(III)I"⟩
abbrev cX8_change : ByteArray := prog_10_method_26_code
def yX8_change : MethodName := ⟨RX8, "change", "(II)I"⟩
abbrev cX8_allez : ByteArray := prog_10_method_27_code
def yX8_allez : MethodName := ⟨RX8, "allez", "()I"⟩
abbrev cX8_latest : ByteArray := prog_10_method_28_code
def yX8_latest : MethodName := ⟨RX8, "latest", "()I"⟩
abbrev cX8_isTime : ByteArray := prog_10_method_29_code
def yX8_isTime : MethodName := ⟨RX8, "isTime", "(I)Z"⟩
abbrev cX8_hears : ByteArray := prog_10_method_30_code
def yX8_hears : MethodName := ⟨RX8, "hears", "()Z"⟩
abbrev cX8_event : ByteArray := prog_10_method_31_code
def yX8_event : MethodName := ⟨RX8, "event", "(II)I"⟩
abbrev cX8_contact : ByteArray := prog_10_method_32_code
def yX8_contact : MethodName := ⟨RX8, "contact", "(IZI)I"⟩
abbrev cX8_right : ByteArray := prog_10_method_33_code
def yX8_right : MethodName := ⟨RX8, "right", "(II)I"⟩
abbrev cX8_halt : ByteArray := prog_10_method_34_code
def yX8_halt : MethodName := ⟨RX8, "halt", "()I"⟩
abbrev cX8_appeal : ByteArray := prog_10_method_35_code
def yX8_appeal : MethodName := ⟨RX8, "appeal", "(II)I"⟩
abbrev cX8_piste : ByteArray := prog_10_method_36_code
def yX8_piste : MethodName := ⟨RX8, "piste", "()I"⟩
abbrev cX8_isFencing : ByteArray := prog_10_method_37_code
def yX8_isFencing : MethodName := ⟨RX8, "isFencing", "()Z"⟩
abbrev cX8_weaponOf : ByteArray := prog_10_method_38_code
def yX8_weaponOf : MethodName := ⟨RX8, "weaponOf", "(I)I"⟩
abbrev cX8_fencerOf : ByteArray := prog_10_method_39_code
def yX8_fencerOf : MethodName := ⟨RX8, "fencerOf", "(II)I"⟩
abbrev cX8_score : ByteArray := prog_10_method_40_code
def yX8_score : MethodName := ⟨RX8, "score", "(II)I"⟩
abbrev cX8_scoreAnew : ByteArray := prog_10_method_41_code
def yX8_scoreAnew : MethodName := ⟨RX8, "scoreAnew", "(II)I"⟩
abbrev cX8_winner : ByteArray := prog_10_method_42_code
def yX8_winner : MethodName := ⟨RX8, "winner", "(I)I"⟩
abbrev cX8_phrases : ByteArray := prog_10_method_43_code
def yX8_phrases : MethodName := ⟨RX8, "phrases", "(I)I"⟩
abbrev cX8_touches : ByteArray := prog_10_method_44_code
def yX8_touches : MethodName := ⟨RX8, "touches", "(II)I"⟩
abbrev cX8_appeals : ByteArray := prog_10_method_45_code
def yX8_appeals : MethodName := ⟨RX8, "appeals", "(II)I"⟩
abbrev cX8_drawPools : ByteArray := prog_10_method_46_code
def yX8_drawPools : MethodName := ⟨RX8, "drawPools", "(I)I"⟩
abbrev cX8_poolBouts : ByteArray := prog_10_method_47_code
def yX8_poolBouts : MethodName := ⟨RX8, "poolBouts", "()I"⟩
abbrev cX8_sums : ByteArray := prog_10_method_48_code
def yX8_sums : MethodName := ⟨RX8, "sums", "()V"⟩
abbrev cX8_adds : ByteArray := prog_10_method_49_code
def yX8_adds : MethodName := ⟨RX8, "adds", "(IIIZ)V"⟩
abbrev cX8_won : ByteArray := prog_10_method_50_code
def yX8_won : MethodName := ⟨RX8, "won", "(I)I"⟩
abbrev cX8_index : ByteArray := prog_10_method_51_code
def yX8_index : MethodName := ⟨RX8, "index", "(I)I"⟩
abbrev cX8_isAhead : ByteArray := prog_10_method_52_code
def yX8_isAhead : MethodName := ⟨RX8, "isAhead", "(II)Z"⟩
abbrev cX8_ranked : ByteArray := prog_10_method_53_code
def yX8_ranked : MethodName := ⟨RX8, "ranked", "(I)I"⟩
abbrev cX8_rankedAt : ByteArray := prog_10_method_54_code
def yX8_rankedAt : MethodName := ⟨RX8, "rankedAt", "(I)I"⟩
abbrev cX8_areDecided : ByteArray := prog_10_method_55_code
def yX8_areDecided : MethodName := ⟨RX8, "areDecided", "()Z"⟩
abbrev cX8_drawTableau : ByteArray := prog_10_method_56_code
def yX8_drawTableau : MethodName := ⟨RX8, "drawTableau", "()I"⟩
abbrev cX8_size : ByteArray := prog_10_method_57_code
def yX8_size : MethodName := ⟨RX8, "size", "()I"⟩
abbrev cX8_nodeWinner : ByteArray := prog_10_method_58_code
def yX8_nodeWinner : MethodName := ⟨RX8, "nodeWinner", "(I)I"⟩
abbrev cX8_gone : ByteArray := prog_10_method_59_code
def yX8_gone : MethodName := ⟨RX8, "gone", "()I"⟩
def RJ9 : String := "java/lang/Math"
def TJ9 : u_T := fun k => match k with
  | _ => ("", "", "", false)
def tyJ9 : Nat → FieldType := fun k => match k with
  | _ => .int
abbrev wsJ90 : List Cond := u_ws RJ9 TJ9 0
theorem nmJ9 : ∀ a, a < 0 → ∀ b, b < 0 → a ≠ b → (TJ9 a).2.1 ≠ (TJ9 b).2.1 := by decide +kernel
theorem tyJ9_ok : ∀ k, k < 0 → parseFieldDescriptor (TJ9 k).2.2.1 = some (tyJ9 k) := by decide +kernel
abbrev cJ9_max_7cf53 : ByteArray := prog_15_method_65_code
def yJ9_max_7cf53 : MethodName := ⟨RJ9, "max", "(II)I"⟩
def RJ0 : String := "java/lang/String"
def TJ0 : u_T := fun k => match k with
  | _ => ("", "", "", false)
def tyJ0 : Nat → FieldType := fun k => match k with
  | _ => .int
abbrev wsJ00 : List Cond := u_ws RJ0 TJ0 0
theorem nmJ0 : ∀ a, a < 0 → ∀ b, b < 0 → a ≠ b → (TJ0 a).2.1 ≠ (TJ0 b).2.1 := by decide +kernel
theorem tyJ0_ok : ∀ k, k < 0 → parseFieldDescriptor (TJ0 k).2.2.1 = some (tyJ0 k) := by decide +kernel
def RL : String := "PisteLineLaw"
abbrev cL_cell : ByteArray := method_2_code
def yL_cell : MethodName := ⟨RL, "cell", "([II)I"⟩
abbrev cL_fencer : ByteArray := method_3_code
def yL_fencer : MethodName := ⟨RL, "fencer", "(LPisteLine;[J)I"⟩
abbrev cL_weapon : ByteArray := method_4_code
def yL_weapon : MethodName := ⟨RL, "weapon", "(LPisteLine;I[J)I"⟩
abbrev cL_test : ByteArray := method_5_code
def yL_test : MethodName := ⟨RL, "test", "(LPisteLine;III[J)I"⟩
abbrev cL_mark : ByteArray := method_6_code
def yL_mark : MethodName := ⟨RL, "mark", "(LPisteLine;I[J)I"⟩
abbrev cL_owner : ByteArray := method_7_code
def yL_owner : MethodName := ⟨RL, "owner", "(LPisteLine;I[J)I"⟩
abbrev cL_begin : ByteArray := method_8_code
def yL_begin : MethodName := ⟨RL, "begin", "(LPisteLine;III[J)I"⟩
abbrev cL_change : ByteArray := method_9_code
def yL_change : MethodName := ⟨RL, "change", "(LPisteLine;II[J)I"⟩
abbrev cL_allez : ByteArray := method_10_code
def yL_allez : MethodName := ⟨RL, "allez", "(LPisteLine;[J)I"⟩
abbrev cL_contact : ByteArray := method_11_code
def yL_contact : MethodName := ⟨RL, "contact", "(LPisteLine;IZI[J)I"⟩
abbrev cL_right : ByteArray := method_12_code
def yL_right : MethodName := ⟨RL, "right", "(LPisteLine;II[J)I"⟩
abbrev cL_halt : ByteArray := method_13_code
def yL_halt : MethodName := ⟨RL, "halt", "(LPisteLine;[J)I"⟩
abbrev cL_appeal : ByteArray := method_14_code
def yL_appeal : MethodName := ⟨RL, "appeal", "(LPisteLine;II[J)I"⟩
abbrev cL_weaponOf : ByteArray := method_15_code
def yL_weaponOf : MethodName := ⟨RL, "weaponOf", "(LPisteLine;I[J)I"⟩
abbrev cL_fencerOf : ByteArray := method_16_code
def yL_fencerOf : MethodName := ⟨RL, "fencerOf", "(LPisteLine;II[J)I"⟩
abbrev cL_score : ByteArray := method_17_code
def yL_score : MethodName := ⟨RL, "score", "(LPisteLine;II[J)I"⟩
abbrev cL_scoreAnew : ByteArray := method_18_code
def yL_scoreAnew : MethodName := ⟨RL, "scoreAnew", "(LPisteLine;II[J)I"⟩
abbrev cL_winner : ByteArray := method_19_code
def yL_winner : MethodName := ⟨RL, "winner", "(LPisteLine;I[J)I"⟩
abbrev cL_phrases : ByteArray := method_20_code
def yL_phrases : MethodName := ⟨RL, "phrases", "(LPisteLine;I[J)I"⟩
abbrev cL_touches : ByteArray := method_21_code
def yL_touches : MethodName := ⟨RL, "touches", "(LPisteLine;II[J)I"⟩
abbrev cL_appeals : ByteArray := method_22_code
def yL_appeals : MethodName := ⟨RL, "appeals", "(LPisteLine;II[J)I"⟩
abbrev cL_drawPools : ByteArray := method_23_code
def yL_drawPools : MethodName := ⟨RL, "drawPools", "(LPisteLine;I[J)I"⟩
abbrev cL_won : ByteArray := method_24_code
def yL_won : MethodName := ⟨RL, "won", "(LPisteLine;I[J)I"⟩
abbrev cL_index : ByteArray := method_25_code
def yL_index : MethodName := ⟨RL, "index", "(LPisteLine;I[J)I"⟩
abbrev cL_rankedAt : ByteArray := method_26_code
def yL_rankedAt : MethodName := ⟨RL, "rankedAt", "(LPisteLine;I[J)I"⟩
abbrev cL_drawTableau : ByteArray := method_27_code
def yL_drawTableau : MethodName := ⟨RL, "drawTableau", "(LPisteLine;[J)I"⟩
abbrev cL_nodeWinner : ByteArray := method_28_code
def yL_nodeWinner : MethodName := ⟨RL, "nodeWinner", "(LPisteLine;I[J)I"⟩
abbrev cL_law : ByteArray := code
def yL_law : MethodName := ⟨RL, "law", "([I)Z"⟩
abbrev vwCl : List vw_C := [(RX0, TX0, 8), (RX1, TX1, 5), (RX2, TX2, 10), (RX3, TX3, 6), (RX4, TX4, 5), (RX5, TX5, 3), (RX6, TX6, 4), (RX7, TX7, 10), (RX8, TX8, 34)]
/-- the texts of the exceptions -/
def strL : List (Nat × String) := [(62, "the hall is full, or the pools are drawn"), (76, "no such fencer"), (82, "there are as many weapons as there may be"), (91, "no such weapon"), (95, "weight or travel is out of range"), (105, "the weapon has failed, or a phrase is on"), (118, "no such bout or weapon"), (123, "a phrase is on, or the bout can't be fenced"), (135, "a weapon is not marked, or of another fencer"), (147, "no such side or weapon"), (153, "the piste is empty, or a phrase is on"), (158, "the weapon is not marked, or of another fencer"), (172, "the bout is decided, or a weapon is not marked"), (179, "no such side"), (184, "the time is below 0, or of the event ahead"), (189, "no phrase is on, or it is full"), (201, "the side or the time is out of range"), (203, "no phrase is on"), (227, "the right is out of range"), (229, "there is no phrase to appeal as to"), (238, "the side has no appeal left"), (252, "no such bout or side"), (264, "no such bout"), (275, "no such phrase has ended"), (277, "the number of pools is out of range"), (279, "the pools are drawn, or one would be too small"), (296, "no such place"), (304, "the pools are not drawn, or a bout of them is open"), (309, "the tableau is drawn, or a phrase is on"), (326, "no such node")]
end
section
theorem dX0_init_0 : decode cX0_init 0 = .ok (.aload_n 0, 1) := by decide +kernel
theorem dX0_init_1 : decode cX0_init 1 = .ok (.invokespecial 3, 3) := by decide +kernel
theorem dX0_init_4 : decode cX0_init 4 = .ok (.aload_n 0, 1) := by decide +kernel
theorem dX0_init_5 : decode cX0_init 5 = .ok (.bipush 12, 2) := by decide +kernel
theorem dX0_init_7 : decode cX0_init 7 = .ok (.anewarray 9, 3) := by decide +kernel
theorem dX0_init_10 : decode cX0_init 10 = .ok (.putfield 11, 3) := by decide +kernel
theorem dX0_init_13 : decode cX0_init 13 = .ok (.aload_n 0, 1) := by decide +kernel
theorem dX0_init_14 : decode cX0_init 14 = .ok (.iconst 2, 1) := by decide +kernel
theorem dX0_init_15 : decode cX0_init 15 = .ok (.putfield 17, 3) := by decide +kernel
theorem dX0_init_18 : decode cX0_init 18 = .ok (.aload_n 0, 1) := by decide +kernel
theorem dX0_init_19 : decode cX0_init 19 = .ok (.iconst 2, 1) := by decide +kernel
theorem dX0_init_20 : decode cX0_init 20 = .ok (.putfield 21, 3) := by decide +kernel
theorem dX0_init_23 : decode cX0_init 23 = .ok (.aload_n 0, 1) := by decide +kernel
theorem dX0_init_24 : decode cX0_init 24 = .ok (.new 24, 3) := by decide +kernel
theorem dX0_init_27 : decode cX0_init 27 = .ok (.dup, 1) := by decide +kernel
theorem dX0_init_28 : decode cX0_init 28 = .ok (.invokespecial 26, 3) := by decide +kernel
theorem dX0_init_31 : decode cX0_init 31 = .ok (.putfield 27, 3) := by decide +kernel
theorem dX0_init_34 : decode cX0_init 34 = .ok (.aload_n 0, 1) := by decide +kernel
theorem dX0_init_35 : decode cX0_init 35 = .ok (.iload_n 1, 1) := by decide +kernel
theorem dX0_init_36 : decode cX0_init 36 = .ok (.putfield 31, 3) := by decide +kernel
theorem dX0_init_39 : decode cX0_init 39 = .ok (.aload_n 0, 1) := by decide +kernel
theorem dX0_init_40 : decode cX0_init 40 = .ok (.iload_n 2, 1) := by decide +kernel
theorem dX0_init_41 : decode cX0_init 41 = .ok (.putfield 35, 3) := by decide +kernel
theorem dX0_init_44 : decode cX0_init 44 = .ok (.aload_n 0, 1) := by decide +kernel
theorem dX0_init_45 : decode cX0_init 45 = .ok (.iload_n 3, 1) := by decide +kernel
theorem dX0_init_46 : decode cX0_init 46 = .ok (.putfield 38, 3) := by decide +kernel
theorem dX0_init_49 : decode cX0_init 49 = .ok (.aload_n 0, 1) := by decide +kernel
theorem dX0_init_50 : decode cX0_init 50 = .ok (.getfield 27, 3) := by decide +kernel
theorem dX0_init_53 : decode cX0_init 53 = .ok (.iload_n 1, 1) := by decide +kernel
theorem dX0_init_54 : decode cX0_init 54 = .ok (.ifCond .eq 7, 3) := by decide +kernel
theorem dX0_init_57 : decode cX0_init 57 = .ok (.iconst 3, 1) := by decide +kernel
theorem dX0_init_58 : decode cX0_init 58 = .ok (.goto 4, 3) := by decide +kernel
theorem dX0_init_61 : decode cX0_init 61 = .ok (.iconst 5, 1) := by decide +kernel
theorem dX0_init_62 : decode cX0_init 62 = .ok (.invokevirtual 41, 3) := by decide +kernel
theorem dX0_init_65 : decode cX0_init 65 = .ok (.return_, 1) := by decide +kernel
theorem dX0_fencerAt_0 : decode cX0_fencerAt 0 = .ok (.iload_n 1, 1) := by decide +kernel
theorem dX0_fencerAt_1 : decode cX0_fencerAt 1 = .ok (.ifCond .ne 10, 3) := by decide +kernel
theorem dX0_fencerAt_4 : decode cX0_fencerAt 4 = .ok (.aload_n 0, 1) := by decide +kernel
theorem dX0_fencerAt_5 : decode cX0_fencerAt 5 = .ok (.getfield 35, 3) := by decide +kernel
theorem dX0_fencerAt_8 : decode cX0_fencerAt 8 = .ok (.goto 7, 3) := by decide +kernel
theorem dX0_fencerAt_11 : decode cX0_fencerAt 11 = .ok (.aload_n 0, 1) := by decide +kernel
theorem dX0_fencerAt_12 : decode cX0_fencerAt 12 = .ok (.getfield 38, 3) := by decide +kernel
theorem dX0_fencerAt_15 : decode cX0_fencerAt 15 = .ok (.ireturn, 1) := by decide +kernel
theorem dX0_phraseAt_0 : decode cX0_phraseAt 0 = .ok (.iload_n 1, 1) := by decide +kernel
theorem dX0_phraseAt_1 : decode cX0_phraseAt 1 = .ok (.ifCond .lt 26, 3) := by decide +kernel
theorem dX0_phraseAt_4 : decode cX0_phraseAt 4 = .ok (.iload_n 1, 1) := by decide +kernel
theorem dX0_phraseAt_5 : decode cX0_phraseAt 5 = .ok (.aload_n 0, 1) := by decide +kernel
theorem dX0_phraseAt_6 : decode cX0_phraseAt 6 = .ok (.getfield 45, 3) := by decide +kernel
theorem dX0_phraseAt_9 : decode cX0_phraseAt 9 = .ok (.if_icmp .ge 18, 3) := by decide +kernel
theorem dX0_phraseAt_12 : decode cX0_phraseAt 12 = .ok (.iload_n 1, 1) := by decide +kernel
theorem dX0_phraseAt_13 : decode cX0_phraseAt 13 = .ok (.bipush 12, 2) := by decide +kernel
theorem dX0_phraseAt_15 : decode cX0_phraseAt 15 = .ok (.if_icmp .ge 12, 3) := by decide +kernel
theorem dX0_phraseAt_18 : decode cX0_phraseAt 18 = .ok (.aload_n 0, 1) := by decide +kernel
theorem dX0_phraseAt_19 : decode cX0_phraseAt 19 = .ok (.getfield 11, 3) := by decide +kernel
theorem dX0_phraseAt_22 : decode cX0_phraseAt 22 = .ok (.iload_n 1, 1) := by decide +kernel
theorem dX0_phraseAt_23 : decode cX0_phraseAt 23 = .ok (.aaload, 1) := by decide +kernel
theorem dX0_phraseAt_24 : decode cX0_phraseAt 24 = .ok (.goto 4, 3) := by decide +kernel
theorem dX0_phraseAt_27 : decode cX0_phraseAt 27 = .ok (.aconst_null, 1) := by decide +kernel
theorem dX0_phraseAt_28 : decode cX0_phraseAt 28 = .ok (.areturn, 1) := by decide +kernel
theorem dX0_keep_0 : decode cX0_keep 0 = .ok (.aload_n 0, 1) := by decide +kernel
theorem dX0_keep_1 : decode cX0_keep 1 = .ok (.getfield 45, 3) := by decide +kernel
theorem dX0_keep_4 : decode cX0_keep 4 = .ok (.ifCond .lt 12, 3) := by decide +kernel
theorem dX0_keep_7 : decode cX0_keep 7 = .ok (.aload_n 0, 1) := by decide +kernel
theorem dX0_keep_8 : decode cX0_keep 8 = .ok (.getfield 45, 3) := by decide +kernel
theorem dX0_keep_11 : decode cX0_keep 11 = .ok (.bipush 12, 2) := by decide +kernel
theorem dX0_keep_13 : decode cX0_keep 13 = .ok (.if_icmp .lt 4, 3) := by decide +kernel
theorem dX0_keep_16 : decode cX0_keep 16 = .ok (.return_, 1) := by decide +kernel
theorem dX0_keep_17 : decode cX0_keep 17 = .ok (.aload_n 0, 1) := by decide +kernel
theorem dX0_keep_18 : decode cX0_keep 18 = .ok (.getfield 11, 3) := by decide +kernel
theorem dX0_keep_21 : decode cX0_keep 21 = .ok (.aload_n 0, 1) := by decide +kernel
theorem dX0_keep_22 : decode cX0_keep 22 = .ok (.getfield 45, 3) := by decide +kernel
theorem dX0_keep_25 : decode cX0_keep 25 = .ok (.aload_n 1, 1) := by decide +kernel
theorem dX0_keep_26 : decode cX0_keep 26 = .ok (.aastore, 1) := by decide +kernel
theorem dX0_keep_27 : decode cX0_keep 27 = .ok (.aload_n 0, 1) := by decide +kernel
theorem dX0_keep_28 : decode cX0_keep 28 = .ok (.dup, 1) := by decide +kernel
theorem dX0_keep_29 : decode cX0_keep 29 = .ok (.getfield 45, 3) := by decide +kernel
theorem dX0_keep_32 : decode cX0_keep 32 = .ok (.iconst 1, 1) := by decide +kernel
theorem dX0_keep_33 : decode cX0_keep 33 = .ok (.iadd, 1) := by decide +kernel
theorem dX0_keep_34 : decode cX0_keep 34 = .ok (.putfield 45, 3) := by decide +kernel
theorem dX0_keep_37 : decode cX0_keep 37 = .ok (.aload_n 0, 1) := by decide +kernel
theorem dX0_keep_38 : decode cX0_keep 38 = .ok (.invokevirtual 48, 3) := by decide +kernel
theorem dX0_keep_41 : decode cX0_keep 41 = .ok (.return_, 1) := by decide +kernel
theorem dX0_forget_0 : decode cX0_forget 0 = .ok (.iconst 0, 1) := by decide +kernel
theorem dX0_forget_1 : decode cX0_forget 1 = .ok (.istore_n 1, 1) := by decide +kernel
theorem dX0_forget_2 : decode cX0_forget 2 = .ok (.iload_n 1, 1) := by decide +kernel
theorem dX0_forget_3 : decode cX0_forget 3 = .ok (.bipush 12, 2) := by decide +kernel
theorem dX0_forget_5 : decode cX0_forget 5 = .ok (.if_icmp .ge 16, 3) := by decide +kernel
theorem dX0_forget_8 : decode cX0_forget 8 = .ok (.aload_n 0, 1) := by decide +kernel
theorem dX0_forget_9 : decode cX0_forget 9 = .ok (.getfield 11, 3) := by decide +kernel
theorem dX0_forget_12 : decode cX0_forget 12 = .ok (.iload_n 1, 1) := by decide +kernel
theorem dX0_forget_13 : decode cX0_forget 13 = .ok (.aconst_null, 1) := by decide +kernel
theorem dX0_forget_14 : decode cX0_forget 14 = .ok (.aastore, 1) := by decide +kernel
theorem dX0_forget_15 : decode cX0_forget 15 = .ok (.iinc 1 1, 3) := by decide +kernel
theorem dX0_forget_18 : decode cX0_forget 18 = .ok (.goto (-16), 3) := by decide +kernel
theorem dX0_forget_21 : decode cX0_forget 21 = .ok (.aload_n 0, 1) := by decide +kernel
theorem dX0_forget_22 : decode cX0_forget 22 = .ok (.iconst 0, 1) := by decide +kernel
theorem dX0_forget_23 : decode cX0_forget 23 = .ok (.putfield 45, 3) := by decide +kernel
theorem dX0_forget_26 : decode cX0_forget 26 = .ok (.aload_n 0, 1) := by decide +kernel
theorem dX0_forget_27 : decode cX0_forget 27 = .ok (.iconst 2, 1) := by decide +kernel
theorem dX0_forget_28 : decode cX0_forget 28 = .ok (.putfield 17, 3) := by decide +kernel
theorem dX0_forget_31 : decode cX0_forget 31 = .ok (.aload_n 0, 1) := by decide +kernel
theorem dX0_forget_32 : decode cX0_forget 32 = .ok (.iconst 2, 1) := by decide +kernel
theorem dX0_forget_33 : decode cX0_forget 33 = .ok (.putfield 21, 3) := by decide +kernel
theorem dX0_forget_36 : decode cX0_forget 36 = .ok (.aload_n 0, 1) := by decide +kernel
theorem dX0_forget_37 : decode cX0_forget 37 = .ok (.getfield 27, 3) := by decide +kernel
theorem dX0_forget_40 : decode cX0_forget 40 = .ok (.aload_n 0, 1) := by decide +kernel
theorem dX0_forget_41 : decode cX0_forget 41 = .ok (.getfield 27, 3) := by decide +kernel
theorem dX0_forget_44 : decode cX0_forget 44 = .ok (.getfield 51, 3) := by decide +kernel
theorem dX0_forget_47 : decode cX0_forget 47 = .ok (.invokevirtual 41, 3) := by decide +kernel
theorem dX0_forget_50 : decode cX0_forget 50 = .ok (.return_, 1) := by decide +kernel
theorem dX0_touchesLeft_0 : decode cX0_touchesLeft 0 = .ok (.aload_n 1, 1) := by decide +kernel
theorem dX0_touchesLeft_1 : decode cX0_touchesLeft 1 = .ok (.aload_n 1, 1) := by decide +kernel
theorem dX0_touchesLeft_2 : decode cX0_touchesLeft 2 = .ok (.getfield 54, 3) := by decide +kernel
theorem dX0_touchesLeft_5 : decode cX0_touchesLeft 5 = .ok (.aload_n 0, 1) := by decide +kernel
theorem dX0_touchesLeft_6 : decode cX0_touchesLeft 6 = .ok (.getfield 31, 3) := by decide +kernel
theorem dX0_touchesLeft_9 : decode cX0_touchesLeft 9 = .ok (.invokevirtual 57, 3) := by decide +kernel
theorem dX0_touchesLeft_12 : decode cX0_touchesLeft 12 = .ok (.ireturn, 1) := by decide +kernel
theorem dX0_recount_0 : decode cX0_recount 0 = .ok (.aload_n 0, 1) := by decide +kernel
theorem dX0_recount_1 : decode cX0_recount 1 = .ok (.getfield 27, 3) := by decide +kernel
theorem dX0_recount_4 : decode cX0_recount 4 = .ok (.aload_n 0, 1) := by decide +kernel
theorem dX0_recount_5 : decode cX0_recount 5 = .ok (.getfield 27, 3) := by decide +kernel
theorem dX0_recount_8 : decode cX0_recount 8 = .ok (.getfield 51, 3) := by decide +kernel
theorem dX0_recount_11 : decode cX0_recount 11 = .ok (.invokevirtual 41, 3) := by decide +kernel
theorem dX0_recount_14 : decode cX0_recount 14 = .ok (.iconst 0, 1) := by decide +kernel
theorem dX0_recount_15 : decode cX0_recount 15 = .ok (.istore_n 1, 1) := by decide +kernel
theorem dX0_recount_16 : decode cX0_recount 16 = .ok (.iload_n 1, 1) := by decide +kernel
theorem dX0_recount_17 : decode cX0_recount 17 = .ok (.aload_n 0, 1) := by decide +kernel
theorem dX0_recount_18 : decode cX0_recount 18 = .ok (.getfield 45, 3) := by decide +kernel
theorem dX0_recount_21 : decode cX0_recount 21 = .ok (.if_icmp .ge 31, 3) := by decide +kernel
theorem dX0_recount_24 : decode cX0_recount 24 = .ok (.aload_n 0, 1) := by decide +kernel
theorem dX0_recount_25 : decode cX0_recount 25 = .ok (.iload_n 1, 1) := by decide +kernel
theorem dX0_recount_26 : decode cX0_recount 26 = .ok (.invokevirtual 61, 3) := by decide +kernel
theorem dX0_recount_29 : decode cX0_recount 29 = .ok (.astore_n 2, 1) := by decide +kernel
theorem dX0_recount_30 : decode cX0_recount 30 = .ok (.aload_n 2, 1) := by decide +kernel
theorem dX0_recount_31 : decode cX0_recount 31 = .ok (.ifnull 15, 3) := by decide +kernel
theorem dX0_recount_34 : decode cX0_recount 34 = .ok (.aload_n 0, 1) := by decide +kernel
theorem dX0_recount_35 : decode cX0_recount 35 = .ok (.getfield 27, 3) := by decide +kernel
theorem dX0_recount_38 : decode cX0_recount 38 = .ok (.aload_n 0, 1) := by decide +kernel
theorem dX0_recount_39 : decode cX0_recount 39 = .ok (.aload_n 2, 1) := by decide +kernel
theorem dX0_recount_40 : decode cX0_recount 40 = .ok (.invokevirtual 65, 3) := by decide +kernel
theorem dX0_recount_43 : decode cX0_recount 43 = .ok (.invokevirtual 69, 3) := by decide +kernel
theorem dX0_recount_46 : decode cX0_recount 46 = .ok (.iinc 1 1, 3) := by decide +kernel
theorem dX0_recount_49 : decode cX0_recount 49 = .ok (.goto (-33), 3) := by decide +kernel
theorem dX0_recount_52 : decode cX0_recount 52 = .ok (.return_, 1) := by decide +kernel
theorem dX0_countAnew_0 : decode cX0_countAnew 0 = .ok (.aload_n 1, 1) := by decide +kernel
theorem dX0_countAnew_1 : decode cX0_countAnew 1 = .ok (.aload_n 0, 1) := by decide +kernel
theorem dX0_countAnew_2 : decode cX0_countAnew 2 = .ok (.getfield 27, 3) := by decide +kernel
theorem dX0_countAnew_5 : decode cX0_countAnew 5 = .ok (.getfield 51, 3) := by decide +kernel
theorem dX0_countAnew_8 : decode cX0_countAnew 8 = .ok (.invokevirtual 41, 3) := by decide +kernel
theorem dX0_countAnew_11 : decode cX0_countAnew 11 = .ok (.iconst 0, 1) := by decide +kernel
theorem dX0_countAnew_12 : decode cX0_countAnew 12 = .ok (.istore_n 2, 1) := by decide +kernel
theorem dX0_countAnew_13 : decode cX0_countAnew 13 = .ok (.iload_n 2, 1) := by decide +kernel
theorem dX0_countAnew_14 : decode cX0_countAnew 14 = .ok (.aload_n 0, 1) := by decide +kernel
theorem dX0_countAnew_15 : decode cX0_countAnew 15 = .ok (.getfield 45, 3) := by decide +kernel
theorem dX0_countAnew_18 : decode cX0_countAnew 18 = .ok (.if_icmp .ge 35, 3) := by decide +kernel
theorem dX0_countAnew_21 : decode cX0_countAnew 21 = .ok (.aload_n 0, 1) := by decide +kernel
theorem dX0_countAnew_22 : decode cX0_countAnew 22 = .ok (.iload_n 2, 1) := by decide +kernel
theorem dX0_countAnew_23 : decode cX0_countAnew 23 = .ok (.invokevirtual 61, 3) := by decide +kernel
theorem dX0_countAnew_26 : decode cX0_countAnew 26 = .ok (.astore_n 3, 1) := by decide +kernel
theorem dX0_countAnew_27 : decode cX0_countAnew 27 = .ok (.aload_n 3, 1) := by decide +kernel
theorem dX0_countAnew_28 : decode cX0_countAnew 28 = .ok (.ifnull 19, 3) := by decide +kernel
theorem dX0_countAnew_31 : decode cX0_countAnew 31 = .ok (.aload_n 1, 1) := by decide +kernel
theorem dX0_countAnew_32 : decode cX0_countAnew 32 = .ok (.aload_n 3, 1) := by decide +kernel
theorem dX0_countAnew_33 : decode cX0_countAnew 33 = .ok (.aload_n 3, 1) := by decide +kernel
theorem dX0_countAnew_34 : decode cX0_countAnew 34 = .ok (.invokevirtual 72, 3) := by decide +kernel
theorem dX0_countAnew_37 : decode cX0_countAnew 37 = .ok (.aload_n 0, 1) := by decide +kernel
theorem dX0_countAnew_38 : decode cX0_countAnew 38 = .ok (.getfield 31, 3) := by decide +kernel
theorem dX0_countAnew_41 : decode cX0_countAnew 41 = .ok (.invokevirtual 57, 3) := by decide +kernel
theorem dX0_countAnew_44 : decode cX0_countAnew 44 = .ok (.invokevirtual 69, 3) := by decide +kernel
theorem dX0_countAnew_47 : decode cX0_countAnew 47 = .ok (.iinc 2 1, 3) := by decide +kernel
theorem dX0_countAnew_50 : decode cX0_countAnew 50 = .ok (.goto (-37), 3) := by decide +kernel
theorem dX0_countAnew_53 : decode cX0_countAnew 53 = .ok (.return_, 1) := by decide +kernel
theorem dX0_appealsLeft_0 : decode cX0_appealsLeft 0 = .ok (.iload_n 1, 1) := by decide +kernel
theorem dX0_appealsLeft_1 : decode cX0_appealsLeft 1 = .ok (.ifCond .ne 10, 3) := by decide +kernel
theorem dX0_appealsLeft_4 : decode cX0_appealsLeft 4 = .ok (.aload_n 0, 1) := by decide +kernel
theorem dX0_appealsLeft_5 : decode cX0_appealsLeft 5 = .ok (.getfield 17, 3) := by decide +kernel
theorem dX0_appealsLeft_8 : decode cX0_appealsLeft 8 = .ok (.goto 7, 3) := by decide +kernel
theorem dX0_appealsLeft_11 : decode cX0_appealsLeft 11 = .ok (.aload_n 0, 1) := by decide +kernel
theorem dX0_appealsLeft_12 : decode cX0_appealsLeft 12 = .ok (.getfield 21, 3) := by decide +kernel
theorem dX0_appealsLeft_15 : decode cX0_appealsLeft 15 = .ok (.ireturn, 1) := by decide +kernel
theorem dX0_useAppeal_0 : decode cX0_useAppeal 0 = .ok (.iload_n 1, 1) := by decide +kernel
theorem dX0_useAppeal_1 : decode cX0_useAppeal 1 = .ok (.ifCond .ne 16, 3) := by decide +kernel
theorem dX0_useAppeal_4 : decode cX0_useAppeal 4 = .ok (.aload_n 0, 1) := by decide +kernel
theorem dX0_useAppeal_5 : decode cX0_useAppeal 5 = .ok (.dup, 1) := by decide +kernel
theorem dX0_useAppeal_6 : decode cX0_useAppeal 6 = .ok (.getfield 17, 3) := by decide +kernel
theorem dX0_useAppeal_9 : decode cX0_useAppeal 9 = .ok (.iconst 1, 1) := by decide +kernel
theorem dX0_useAppeal_10 : decode cX0_useAppeal 10 = .ok (.isub, 1) := by decide +kernel
theorem dX0_useAppeal_11 : decode cX0_useAppeal 11 = .ok (.putfield 17, 3) := by decide +kernel
theorem dX0_useAppeal_14 : decode cX0_useAppeal 14 = .ok (.goto 13, 3) := by decide +kernel
theorem dX0_useAppeal_17 : decode cX0_useAppeal 17 = .ok (.aload_n 0, 1) := by decide +kernel
theorem dX0_useAppeal_18 : decode cX0_useAppeal 18 = .ok (.dup, 1) := by decide +kernel
theorem dX0_useAppeal_19 : decode cX0_useAppeal 19 = .ok (.getfield 21, 3) := by decide +kernel
theorem dX0_useAppeal_22 : decode cX0_useAppeal 22 = .ok (.iconst 1, 1) := by decide +kernel
theorem dX0_useAppeal_23 : decode cX0_useAppeal 23 = .ok (.isub, 1) := by decide +kernel
theorem dX0_useAppeal_24 : decode cX0_useAppeal 24 = .ok (.putfield 21, 3) := by decide +kernel
theorem dX0_useAppeal_27 : decode cX0_useAppeal 27 = .ok (.return_, 1) := by decide +kernel
theorem dX0_winningSide_0 : decode cX0_winningSide 0 = .ok (.aload_n 0, 1) := by decide +kernel
theorem dX0_winningSide_1 : decode cX0_winningSide 1 = .ok (.getfield 27, 3) := by decide +kernel
theorem dX0_winningSide_4 : decode cX0_winningSide 4 = .ok (.invokevirtual 76, 3) := by decide +kernel
theorem dX0_winningSide_7 : decode cX0_winningSide 7 = .ok (.ifCond .ne 12, 3) := by decide +kernel
theorem dX0_winningSide_10 : decode cX0_winningSide 10 = .ok (.aload_n 0, 1) := by decide +kernel
theorem dX0_winningSide_11 : decode cX0_winningSide 11 = .ok (.getfield 45, 3) := by decide +kernel
theorem dX0_winningSide_14 : decode cX0_winningSide 14 = .ok (.bipush 12, 2) := by decide +kernel
theorem dX0_winningSide_16 : decode cX0_winningSide 16 = .ok (.if_icmp .lt 26, 3) := by decide +kernel
theorem dX0_winningSide_19 : decode cX0_winningSide 19 = .ok (.aload_n 0, 1) := by decide +kernel
theorem dX0_winningSide_20 : decode cX0_winningSide 20 = .ok (.getfield 27, 3) := by decide +kernel
theorem dX0_winningSide_23 : decode cX0_winningSide 23 = .ok (.getfield 80, 3) := by decide +kernel
theorem dX0_winningSide_26 : decode cX0_winningSide 26 = .ok (.aload_n 0, 1) := by decide +kernel
theorem dX0_winningSide_27 : decode cX0_winningSide 27 = .ok (.getfield 27, 3) := by decide +kernel
theorem dX0_winningSide_30 : decode cX0_winningSide 30 = .ok (.getfield 81, 3) := by decide +kernel
theorem dX0_winningSide_33 : decode cX0_winningSide 33 = .ok (.if_icmp .le 7, 3) := by decide +kernel
theorem dX0_winningSide_36 : decode cX0_winningSide 36 = .ok (.iconst 1, 1) := by decide +kernel
theorem dX0_winningSide_37 : decode cX0_winningSide 37 = .ok (.goto 4, 3) := by decide +kernel
theorem dX0_winningSide_40 : decode cX0_winningSide 40 = .ok (.iconst 0, 1) := by decide +kernel
theorem dX0_winningSide_41 : decode cX0_winningSide 41 = .ok (.ireturn, 1) := by decide +kernel
theorem dX0_winningSide_42 : decode cX0_winningSide 42 = .ok (.iconst (-1), 1) := by decide +kernel
theorem dX0_winningSide_43 : decode cX0_winningSide 43 = .ok (.ireturn, 1) := by decide +kernel
theorem dX0_winningFencer_0 : decode cX0_winningFencer 0 = .ok (.aload_n 0, 1) := by decide +kernel
theorem dX0_winningFencer_1 : decode cX0_winningFencer 1 = .ok (.invokevirtual 82, 3) := by decide +kernel
theorem dX0_winningFencer_4 : decode cX0_winningFencer 4 = .ok (.istore_n 1, 1) := by decide +kernel
theorem dX0_winningFencer_5 : decode cX0_winningFencer 5 = .ok (.iload_n 1, 1) := by decide +kernel
theorem dX0_winningFencer_6 : decode cX0_winningFencer 6 = .ok (.iconst (-1), 1) := by decide +kernel
theorem dX0_winningFencer_7 : decode cX0_winningFencer 7 = .ok (.if_icmp .ne 7, 3) := by decide +kernel
theorem dX0_winningFencer_10 : decode cX0_winningFencer 10 = .ok (.iconst (-1), 1) := by decide +kernel
theorem dX0_winningFencer_11 : decode cX0_winningFencer 11 = .ok (.goto 8, 3) := by decide +kernel
theorem dX0_winningFencer_14 : decode cX0_winningFencer 14 = .ok (.aload_n 0, 1) := by decide +kernel
theorem dX0_winningFencer_15 : decode cX0_winningFencer 15 = .ok (.iload_n 1, 1) := by decide +kernel
theorem dX0_winningFencer_16 : decode cX0_winningFencer 16 = .ok (.invokevirtual 85, 3) := by decide +kernel
theorem dX0_winningFencer_19 : decode cX0_winningFencer 19 = .ok (.ireturn, 1) := by decide +kernel
theorem dX0_canBeFenced_0 : decode cX0_canBeFenced 0 = .ok (.aload_n 0, 1) := by decide +kernel
theorem dX0_canBeFenced_1 : decode cX0_canBeFenced 1 = .ok (.getfield 35, 3) := by decide +kernel
theorem dX0_canBeFenced_4 : decode cX0_canBeFenced 4 = .ok (.iconst (-1), 1) := by decide +kernel
theorem dX0_canBeFenced_5 : decode cX0_canBeFenced 5 = .ok (.if_icmp .eq 23, 3) := by decide +kernel
theorem dX0_canBeFenced_8 : decode cX0_canBeFenced 8 = .ok (.aload_n 0, 1) := by decide +kernel
theorem dX0_canBeFenced_9 : decode cX0_canBeFenced 9 = .ok (.getfield 38, 3) := by decide +kernel
theorem dX0_canBeFenced_12 : decode cX0_canBeFenced 12 = .ok (.iconst (-1), 1) := by decide +kernel
theorem dX0_canBeFenced_13 : decode cX0_canBeFenced 13 = .ok (.if_icmp .eq 15, 3) := by decide +kernel
theorem dX0_canBeFenced_16 : decode cX0_canBeFenced 16 = .ok (.aload_n 0, 1) := by decide +kernel
theorem dX0_canBeFenced_17 : decode cX0_canBeFenced 17 = .ok (.invokevirtual 82, 3) := by decide +kernel
theorem dX0_canBeFenced_20 : decode cX0_canBeFenced 20 = .ok (.iconst (-1), 1) := by decide +kernel
theorem dX0_canBeFenced_21 : decode cX0_canBeFenced 21 = .ok (.if_icmp .ne 7, 3) := by decide +kernel
theorem dX0_canBeFenced_24 : decode cX0_canBeFenced 24 = .ok (.iconst 1, 1) := by decide +kernel
theorem dX0_canBeFenced_25 : decode cX0_canBeFenced 25 = .ok (.goto 4, 3) := by decide +kernel
theorem dX0_canBeFenced_28 : decode cX0_canBeFenced 28 = .ok (.iconst 0, 1) := by decide +kernel
theorem dX0_canBeFenced_29 : decode cX0_canBeFenced 29 = .ok (.ireturn, 1) := by decide +kernel
theorem dX1_init_0 : decode cX1_init 0 = .ok (.aload_n 0, 1) := by decide +kernel
theorem dX1_init_1 : decode cX1_init 1 = .ok (.invokespecial 1, 3) := by decide +kernel
theorem dX1_init_4 : decode cX1_init 4 = .ok (.aload_n 0, 1) := by decide +kernel
theorem dX1_init_5 : decode cX1_init 5 = .ok (.iload_n 1, 1) := by decide +kernel
theorem dX1_init_6 : decode cX1_init 6 = .ok (.putfield 7, 3) := by decide +kernel
theorem dX1_init_9 : decode cX1_init 9 = .ok (.return_, 1) := by decide +kernel
theorem dX1_clear_0 : decode cX1_clear 0 = .ok (.aload_n 0, 1) := by decide +kernel
theorem dX1_clear_1 : decode cX1_clear 1 = .ok (.iconst 0, 1) := by decide +kernel
theorem dX1_clear_2 : decode cX1_clear 2 = .ok (.putfield 13, 3) := by decide +kernel
theorem dX1_clear_5 : decode cX1_clear 5 = .ok (.aload_n 0, 1) := by decide +kernel
theorem dX1_clear_6 : decode cX1_clear 6 = .ok (.iconst 0, 1) := by decide +kernel
theorem dX1_clear_7 : decode cX1_clear 7 = .ok (.putfield 16, 3) := by decide +kernel
theorem dX1_clear_10 : decode cX1_clear 10 = .ok (.aload_n 0, 1) := by decide +kernel
theorem dX1_clear_11 : decode cX1_clear 11 = .ok (.iconst 0, 1) := by decide +kernel
theorem dX1_clear_12 : decode cX1_clear 12 = .ok (.putfield 19, 3) := by decide +kernel
theorem dX1_clear_15 : decode cX1_clear 15 = .ok (.aload_n 0, 1) := by decide +kernel
theorem dX1_clear_16 : decode cX1_clear 16 = .ok (.iconst 0, 1) := by decide +kernel
theorem dX1_clear_17 : decode cX1_clear 17 = .ok (.putfield 22, 3) := by decide +kernel
theorem dX1_clear_20 : decode cX1_clear 20 = .ok (.return_, 1) := by decide +kernel
theorem dX1_add_0 : decode cX1_add 0 = .ok (.aload_n 0, 1) := by decide +kernel
theorem dX1_add_1 : decode cX1_add 1 = .ok (.dup, 1) := by decide +kernel
theorem dX1_add_2 : decode cX1_add 2 = .ok (.getfield 13, 3) := by decide +kernel
theorem dX1_add_5 : decode cX1_add 5 = .ok (.iconst 1, 1) := by decide +kernel
theorem dX1_add_6 : decode cX1_add 6 = .ok (.iadd, 1) := by decide +kernel
theorem dX1_add_7 : decode cX1_add 7 = .ok (.putfield 13, 3) := by decide +kernel
theorem dX1_add_10 : decode cX1_add 10 = .ok (.aload_n 0, 1) := by decide +kernel
theorem dX1_add_11 : decode cX1_add 11 = .ok (.dup, 1) := by decide +kernel
theorem dX1_add_12 : decode cX1_add 12 = .ok (.getfield 16, 3) := by decide +kernel
theorem dX1_add_15 : decode cX1_add 15 = .ok (.iload_n 3, 1) := by decide +kernel
theorem dX1_add_16 : decode cX1_add 16 = .ok (.ifCond .eq 7, 3) := by decide +kernel
theorem dX1_add_19 : decode cX1_add 19 = .ok (.iconst 1, 1) := by decide +kernel
theorem dX1_add_20 : decode cX1_add 20 = .ok (.goto 4, 3) := by decide +kernel
theorem dX1_add_23 : decode cX1_add 23 = .ok (.iconst 0, 1) := by decide +kernel
theorem dX1_add_24 : decode cX1_add 24 = .ok (.iadd, 1) := by decide +kernel
theorem dX1_add_25 : decode cX1_add 25 = .ok (.putfield 16, 3) := by decide +kernel
theorem dX1_add_28 : decode cX1_add 28 = .ok (.aload_n 0, 1) := by decide +kernel
theorem dX1_add_29 : decode cX1_add 29 = .ok (.dup, 1) := by decide +kernel
theorem dX1_add_30 : decode cX1_add 30 = .ok (.getfield 19, 3) := by decide +kernel
theorem dX1_add_33 : decode cX1_add 33 = .ok (.iload_n 1, 1) := by decide +kernel
theorem dX1_add_34 : decode cX1_add 34 = .ok (.iadd, 1) := by decide +kernel
theorem dX1_add_35 : decode cX1_add 35 = .ok (.putfield 19, 3) := by decide +kernel
theorem dX1_add_38 : decode cX1_add 38 = .ok (.aload_n 0, 1) := by decide +kernel
theorem dX1_add_39 : decode cX1_add 39 = .ok (.dup, 1) := by decide +kernel
theorem dX1_add_40 : decode cX1_add 40 = .ok (.getfield 22, 3) := by decide +kernel
theorem dX1_add_43 : decode cX1_add 43 = .ok (.iload_n 2, 1) := by decide +kernel
theorem dX1_add_44 : decode cX1_add 44 = .ok (.iadd, 1) := by decide +kernel
theorem dX1_add_45 : decode cX1_add 45 = .ok (.putfield 22, 3) := by decide +kernel
theorem dX1_add_48 : decode cX1_add 48 = .ok (.return_, 1) := by decide +kernel
theorem dX1_difference_0 : decode cX1_difference 0 = .ok (.aload_n 0, 1) := by decide +kernel
theorem dX1_difference_1 : decode cX1_difference 1 = .ok (.getfield 19, 3) := by decide +kernel
theorem dX1_difference_4 : decode cX1_difference 4 = .ok (.aload_n 0, 1) := by decide +kernel
theorem dX1_difference_5 : decode cX1_difference 5 = .ok (.getfield 22, 3) := by decide +kernel
theorem dX1_difference_8 : decode cX1_difference 8 = .ok (.isub, 1) := by decide +kernel
theorem dX1_difference_9 : decode cX1_difference 9 = .ok (.ireturn, 1) := by decide +kernel
theorem dX1_isAheadOf_0 : decode cX1_isAheadOf 0 = .ok (.aload_n 0, 1) := by decide +kernel
theorem dX1_isAheadOf_1 : decode cX1_isAheadOf 1 = .ok (.getfield 16, 3) := by decide +kernel
theorem dX1_isAheadOf_4 : decode cX1_isAheadOf 4 = .ok (.iconst 1, 1) := by decide +kernel
theorem dX1_isAheadOf_5 : decode cX1_isAheadOf 5 = .ok (.aload_n 1, 1) := by decide +kernel
theorem dX1_isAheadOf_6 : decode cX1_isAheadOf 6 = .ok (.getfield 13, 3) := by decide +kernel
theorem dX1_isAheadOf_9 : decode cX1_isAheadOf 9 = .ok (.invokestatic 25, 3) := by decide +kernel
theorem dX1_isAheadOf_12 : decode cX1_isAheadOf 12 = .ok (.imul, 1) := by decide +kernel
theorem dX1_isAheadOf_13 : decode cX1_isAheadOf 13 = .ok (.istore_n 2, 1) := by decide +kernel
theorem dX1_isAheadOf_14 : decode cX1_isAheadOf 14 = .ok (.aload_n 1, 1) := by decide +kernel
theorem dX1_isAheadOf_15 : decode cX1_isAheadOf 15 = .ok (.getfield 16, 3) := by decide +kernel
theorem dX1_isAheadOf_18 : decode cX1_isAheadOf 18 = .ok (.iconst 1, 1) := by decide +kernel
theorem dX1_isAheadOf_19 : decode cX1_isAheadOf 19 = .ok (.aload_n 0, 1) := by decide +kernel
theorem dX1_isAheadOf_20 : decode cX1_isAheadOf 20 = .ok (.getfield 13, 3) := by decide +kernel
theorem dX1_isAheadOf_23 : decode cX1_isAheadOf 23 = .ok (.invokestatic 25, 3) := by decide +kernel
theorem dX1_isAheadOf_26 : decode cX1_isAheadOf 26 = .ok (.imul, 1) := by decide +kernel
theorem dX1_isAheadOf_27 : decode cX1_isAheadOf 27 = .ok (.istore_n 3, 1) := by decide +kernel
theorem dX1_isAheadOf_28 : decode cX1_isAheadOf 28 = .ok (.iload_n 2, 1) := by decide +kernel
theorem dX1_isAheadOf_29 : decode cX1_isAheadOf 29 = .ok (.iload_n 3, 1) := by decide +kernel
theorem dX1_isAheadOf_30 : decode cX1_isAheadOf 30 = .ok (.if_icmp .eq 14, 3) := by decide +kernel
theorem dX1_isAheadOf_33 : decode cX1_isAheadOf 33 = .ok (.iload_n 2, 1) := by decide +kernel
theorem dX1_isAheadOf_34 : decode cX1_isAheadOf 34 = .ok (.iload_n 3, 1) := by decide +kernel
theorem dX1_isAheadOf_35 : decode cX1_isAheadOf 35 = .ok (.if_icmp .le 7, 3) := by decide +kernel
theorem dX1_isAheadOf_38 : decode cX1_isAheadOf 38 = .ok (.iconst 1, 1) := by decide +kernel
theorem dX1_isAheadOf_39 : decode cX1_isAheadOf 39 = .ok (.goto 4, 3) := by decide +kernel
theorem dX1_isAheadOf_42 : decode cX1_isAheadOf 42 = .ok (.iconst 0, 1) := by decide +kernel
theorem dX1_isAheadOf_43 : decode cX1_isAheadOf 43 = .ok (.ireturn, 1) := by decide +kernel
theorem dX1_isAheadOf_44 : decode cX1_isAheadOf 44 = .ok (.aload_n 0, 1) := by decide +kernel
theorem dX1_isAheadOf_45 : decode cX1_isAheadOf 45 = .ok (.invokevirtual 31, 3) := by decide +kernel
theorem dX1_isAheadOf_48 : decode cX1_isAheadOf 48 = .ok (.aload_n 1, 1) := by decide +kernel
theorem dX1_isAheadOf_49 : decode cX1_isAheadOf 49 = .ok (.invokevirtual 31, 3) := by decide +kernel
theorem dX1_isAheadOf_52 : decode cX1_isAheadOf 52 = .ok (.if_icmp .eq 20, 3) := by decide +kernel
theorem dX1_isAheadOf_55 : decode cX1_isAheadOf 55 = .ok (.aload_n 0, 1) := by decide +kernel
theorem dX1_isAheadOf_56 : decode cX1_isAheadOf 56 = .ok (.invokevirtual 31, 3) := by decide +kernel
theorem dX1_isAheadOf_59 : decode cX1_isAheadOf 59 = .ok (.aload_n 1, 1) := by decide +kernel
theorem dX1_isAheadOf_60 : decode cX1_isAheadOf 60 = .ok (.invokevirtual 31, 3) := by decide +kernel
theorem dX1_isAheadOf_63 : decode cX1_isAheadOf 63 = .ok (.if_icmp .le 7, 3) := by decide +kernel
theorem dX1_isAheadOf_66 : decode cX1_isAheadOf 66 = .ok (.iconst 1, 1) := by decide +kernel
theorem dX1_isAheadOf_67 : decode cX1_isAheadOf 67 = .ok (.goto 4, 3) := by decide +kernel
theorem dX1_isAheadOf_70 : decode cX1_isAheadOf 70 = .ok (.iconst 0, 1) := by decide +kernel
theorem dX1_isAheadOf_71 : decode cX1_isAheadOf 71 = .ok (.ireturn, 1) := by decide +kernel
theorem dX1_isAheadOf_72 : decode cX1_isAheadOf 72 = .ok (.aload_n 0, 1) := by decide +kernel
theorem dX1_isAheadOf_73 : decode cX1_isAheadOf 73 = .ok (.getfield 19, 3) := by decide +kernel
theorem dX1_isAheadOf_76 : decode cX1_isAheadOf 76 = .ok (.aload_n 1, 1) := by decide +kernel
theorem dX1_isAheadOf_77 : decode cX1_isAheadOf 77 = .ok (.getfield 19, 3) := by decide +kernel
theorem dX1_isAheadOf_80 : decode cX1_isAheadOf 80 = .ok (.if_icmp .eq 22, 3) := by decide +kernel
theorem dX1_isAheadOf_83 : decode cX1_isAheadOf 83 = .ok (.aload_n 0, 1) := by decide +kernel
theorem dX1_isAheadOf_84 : decode cX1_isAheadOf 84 = .ok (.getfield 19, 3) := by decide +kernel
theorem dX1_isAheadOf_87 : decode cX1_isAheadOf 87 = .ok (.aload_n 1, 1) := by decide +kernel
theorem dX1_isAheadOf_88 : decode cX1_isAheadOf 88 = .ok (.getfield 19, 3) := by decide +kernel
theorem dX1_isAheadOf_91 : decode cX1_isAheadOf 91 = .ok (.if_icmp .le 7, 3) := by decide +kernel
theorem dX1_isAheadOf_94 : decode cX1_isAheadOf 94 = .ok (.iconst 1, 1) := by decide +kernel
theorem dX1_isAheadOf_95 : decode cX1_isAheadOf 95 = .ok (.goto 23, 3) := by decide +kernel
theorem dX1_isAheadOf_98 : decode cX1_isAheadOf 98 = .ok (.iconst 0, 1) := by decide +kernel
theorem dX1_isAheadOf_99 : decode cX1_isAheadOf 99 = .ok (.goto 19, 3) := by decide +kernel
theorem dX1_isAheadOf_102 : decode cX1_isAheadOf 102 = .ok (.aload_n 0, 1) := by decide +kernel
theorem dX1_isAheadOf_103 : decode cX1_isAheadOf 103 = .ok (.getfield 7, 3) := by decide +kernel
theorem dX1_isAheadOf_106 : decode cX1_isAheadOf 106 = .ok (.aload_n 1, 1) := by decide +kernel
theorem dX1_isAheadOf_107 : decode cX1_isAheadOf 107 = .ok (.getfield 7, 3) := by decide +kernel
theorem dX1_isAheadOf_110 : decode cX1_isAheadOf 110 = .ok (.if_icmp .ge 7, 3) := by decide +kernel
theorem dX1_isAheadOf_113 : decode cX1_isAheadOf 113 = .ok (.iconst 1, 1) := by decide +kernel
theorem dX1_isAheadOf_114 : decode cX1_isAheadOf 114 = .ok (.goto 4, 3) := by decide +kernel
theorem dX1_isAheadOf_117 : decode cX1_isAheadOf 117 = .ok (.iconst 0, 1) := by decide +kernel
theorem dX1_isAheadOf_118 : decode cX1_isAheadOf 118 = .ok (.ireturn, 1) := by decide +kernel
theorem dX2_init_0 : decode cX2_init 0 = .ok (.aload_n 0, 1) := by decide +kernel
theorem dX2_init_1 : decode cX2_init 1 = .ok (.invokespecial 3, 3) := by decide +kernel
theorem dX2_init_4 : decode cX2_init 4 = .ok (.aload_n 0, 1) := by decide +kernel
theorem dX2_init_5 : decode cX2_init 5 = .ok (.bipush 8, 2) := by decide +kernel
theorem dX2_init_7 : decode cX2_init 7 = .ok (.newarray .int, 2) := by decide +kernel
theorem dX2_init_9 : decode cX2_init 9 = .ok (.putfield 9, 3) := by decide +kernel
theorem dX2_init_12 : decode cX2_init 12 = .ok (.aload_n 0, 1) := by decide +kernel
theorem dX2_init_13 : decode cX2_init 13 = .ok (.bipush 8, 2) := by decide +kernel
theorem dX2_init_15 : decode cX2_init 15 = .ok (.newarray .int, 2) := by decide +kernel
theorem dX2_init_17 : decode cX2_init 17 = .ok (.putfield 15, 3) := by decide +kernel
theorem dX2_init_20 : decode cX2_init 20 = .ok (.aload_n 0, 1) := by decide +kernel
theorem dX2_init_21 : decode cX2_init 21 = .ok (.bipush 8, 2) := by decide +kernel
theorem dX2_init_23 : decode cX2_init 23 = .ok (.newarray .int, 2) := by decide +kernel
theorem dX2_init_25 : decode cX2_init 25 = .ok (.putfield 18, 3) := by decide +kernel
theorem dX2_init_28 : decode cX2_init 28 = .ok (.aload_n 0, 1) := by decide +kernel
theorem dX2_init_29 : decode cX2_init 29 = .ok (.iconst (-1), 1) := by decide +kernel
theorem dX2_init_30 : decode cX2_init 30 = .ok (.putfield 21, 3) := by decide +kernel
theorem dX2_init_33 : decode cX2_init 33 = .ok (.aload_n 0, 1) := by decide +kernel
theorem dX2_init_34 : decode cX2_init 34 = .ok (.iload_n 1, 1) := by decide +kernel
theorem dX2_init_35 : decode cX2_init 35 = .ok (.putfield 25, 3) := by decide +kernel
theorem dX2_init_38 : decode cX2_init 38 = .ok (.aload_n 0, 1) := by decide +kernel
theorem dX2_init_39 : decode cX2_init 39 = .ok (.aload_n 2, 1) := by decide +kernel
theorem dX2_init_40 : decode cX2_init 40 = .ok (.putfield 29, 3) := by decide +kernel
theorem dX2_init_43 : decode cX2_init 43 = .ok (.aload_n 0, 1) := by decide +kernel
theorem dX2_init_44 : decode cX2_init 44 = .ok (.aload_n 3, 1) := by decide +kernel
theorem dX2_init_45 : decode cX2_init 45 = .ok (.putfield 33, 3) := by decide +kernel
theorem dX2_init_48 : decode cX2_init 48 = .ok (.return_, 1) := by decide +kernel
theorem dX2_isFull_0 : decode cX2_isFull 0 = .ok (.aload_n 0, 1) := by decide +kernel
theorem dX2_isFull_1 : decode cX2_isFull 1 = .ok (.getfield 36, 3) := by decide +kernel
theorem dX2_isFull_4 : decode cX2_isFull 4 = .ok (.bipush 8, 2) := by decide +kernel
theorem dX2_isFull_6 : decode cX2_isFull 6 = .ok (.if_icmp .lt 7, 3) := by decide +kernel
theorem dX2_isFull_9 : decode cX2_isFull 9 = .ok (.iconst 1, 1) := by decide +kernel
theorem dX2_isFull_10 : decode cX2_isFull 10 = .ok (.goto 4, 3) := by decide +kernel
theorem dX2_isFull_13 : decode cX2_isFull 13 = .ok (.iconst 0, 1) := by decide +kernel
theorem dX2_isFull_14 : decode cX2_isFull 14 = .ok (.ireturn, 1) := by decide +kernel
theorem dX2_latestTime_0 : decode cX2_latestTime 0 = .ok (.aload_n 0, 1) := by decide +kernel
theorem dX2_latestTime_1 : decode cX2_latestTime 1 = .ok (.getfield 36, 3) := by decide +kernel
theorem dX2_latestTime_4 : decode cX2_latestTime 4 = .ok (.ifCond .le 26, 3) := by decide +kernel
theorem dX2_latestTime_7 : decode cX2_latestTime 7 = .ok (.aload_n 0, 1) := by decide +kernel
theorem dX2_latestTime_8 : decode cX2_latestTime 8 = .ok (.getfield 36, 3) := by decide +kernel
theorem dX2_latestTime_11 : decode cX2_latestTime 11 = .ok (.bipush 8, 2) := by decide +kernel
theorem dX2_latestTime_13 : decode cX2_latestTime 13 = .ok (.if_icmp .gt 17, 3) := by decide +kernel
theorem dX2_latestTime_16 : decode cX2_latestTime 16 = .ok (.aload_n 0, 1) := by decide +kernel
theorem dX2_latestTime_17 : decode cX2_latestTime 17 = .ok (.getfield 18, 3) := by decide +kernel
theorem dX2_latestTime_20 : decode cX2_latestTime 20 = .ok (.aload_n 0, 1) := by decide +kernel
theorem dX2_latestTime_21 : decode cX2_latestTime 21 = .ok (.getfield 36, 3) := by decide +kernel
theorem dX2_latestTime_24 : decode cX2_latestTime 24 = .ok (.iconst 1, 1) := by decide +kernel
theorem dX2_latestTime_25 : decode cX2_latestTime 25 = .ok (.isub, 1) := by decide +kernel
theorem dX2_latestTime_26 : decode cX2_latestTime 26 = .ok (.iaload, 1) := by decide +kernel
theorem dX2_latestTime_27 : decode cX2_latestTime 27 = .ok (.goto 4, 3) := by decide +kernel
theorem dX2_latestTime_30 : decode cX2_latestTime 30 = .ok (.iconst 0, 1) := by decide +kernel
theorem dX2_latestTime_31 : decode cX2_latestTime 31 = .ok (.ireturn, 1) := by decide +kernel
theorem dX2_hear_0 : decode cX2_hear 0 = .ok (.aload_n 0, 1) := by decide +kernel
theorem dX2_hear_1 : decode cX2_hear 1 = .ok (.getfield 36, 3) := by decide +kernel
theorem dX2_hear_4 : decode cX2_hear 4 = .ok (.ifCond .lt 10, 3) := by decide +kernel
theorem dX2_hear_7 : decode cX2_hear 7 = .ok (.aload_n 0, 1) := by decide +kernel
theorem dX2_hear_8 : decode cX2_hear 8 = .ok (.invokevirtual 39, 3) := by decide +kernel
theorem dX2_hear_11 : decode cX2_hear 11 = .ok (.ifCond .eq 4, 3) := by decide +kernel
theorem dX2_hear_14 : decode cX2_hear 14 = .ok (.return_, 1) := by decide +kernel
theorem dX2_hear_15 : decode cX2_hear 15 = .ok (.aload_n 0, 1) := by decide +kernel
theorem dX2_hear_16 : decode cX2_hear 16 = .ok (.getfield 9, 3) := by decide +kernel
theorem dX2_hear_19 : decode cX2_hear 19 = .ok (.aload_n 0, 1) := by decide +kernel
theorem dX2_hear_20 : decode cX2_hear 20 = .ok (.getfield 36, 3) := by decide +kernel
theorem dX2_hear_23 : decode cX2_hear 23 = .ok (.iload_n 1, 1) := by decide +kernel
theorem dX2_hear_24 : decode cX2_hear 24 = .ok (.iastore, 1) := by decide +kernel
theorem dX2_hear_25 : decode cX2_hear 25 = .ok (.aload_n 0, 1) := by decide +kernel
theorem dX2_hear_26 : decode cX2_hear 26 = .ok (.getfield 15, 3) := by decide +kernel
theorem dX2_hear_29 : decode cX2_hear 29 = .ok (.aload_n 0, 1) := by decide +kernel
theorem dX2_hear_30 : decode cX2_hear 30 = .ok (.getfield 36, 3) := by decide +kernel
theorem dX2_hear_33 : decode cX2_hear 33 = .ok (.iload_n 2, 1) := by decide +kernel
theorem dX2_hear_34 : decode cX2_hear 34 = .ok (.iastore, 1) := by decide +kernel
theorem dX2_hear_35 : decode cX2_hear 35 = .ok (.aload_n 0, 1) := by decide +kernel
theorem dX2_hear_36 : decode cX2_hear 36 = .ok (.getfield 18, 3) := by decide +kernel
theorem dX2_hear_39 : decode cX2_hear 39 = .ok (.aload_n 0, 1) := by decide +kernel
theorem dX2_hear_40 : decode cX2_hear 40 = .ok (.getfield 36, 3) := by decide +kernel
theorem dX2_hear_43 : decode cX2_hear 43 = .ok (.iload_n 3, 1) := by decide +kernel
theorem dX2_hear_44 : decode cX2_hear 44 = .ok (.iastore, 1) := by decide +kernel
theorem dX2_hear_45 : decode cX2_hear 45 = .ok (.aload_n 0, 1) := by decide +kernel
theorem dX2_hear_46 : decode cX2_hear 46 = .ok (.dup, 1) := by decide +kernel
theorem dX2_hear_47 : decode cX2_hear 47 = .ok (.getfield 36, 3) := by decide +kernel
theorem dX2_hear_50 : decode cX2_hear 50 = .ok (.iconst 1, 1) := by decide +kernel
theorem dX2_hear_51 : decode cX2_hear 51 = .ok (.iadd, 1) := by decide +kernel
theorem dX2_hear_52 : decode cX2_hear 52 = .ok (.putfield 36, 3) := by decide +kernel
theorem dX2_hear_55 : decode cX2_hear 55 = .ok (.return_, 1) := by decide +kernel
theorem dX2_tellRight_0 : decode cX2_tellRight 0 = .ok (.aload_n 0, 1) := by decide +kernel
theorem dX2_tellRight_1 : decode cX2_tellRight 1 = .ok (.iconst 1, 1) := by decide +kernel
theorem dX2_tellRight_2 : decode cX2_tellRight 2 = .ok (.putfield 43, 3) := by decide +kernel
theorem dX2_tellRight_5 : decode cX2_tellRight 5 = .ok (.aload_n 0, 1) := by decide +kernel
theorem dX2_tellRight_6 : decode cX2_tellRight 6 = .ok (.iload_n 1, 1) := by decide +kernel
theorem dX2_tellRight_7 : decode cX2_tellRight 7 = .ok (.putfield 21, 3) := by decide +kernel
theorem dX2_tellRight_10 : decode cX2_tellRight 10 = .ok (.aload_n 0, 1) := by decide +kernel
theorem dX2_tellRight_11 : decode cX2_tellRight 11 = .ok (.aload_n 0, 1) := by decide +kernel
theorem dX2_tellRight_12 : decode cX2_tellRight 12 = .ok (.invokevirtual 46, 3) := by decide +kernel
theorem dX2_tellRight_15 : decode cX2_tellRight 15 = .ok (.putfield 50, 3) := by decide +kernel
theorem dX2_tellRight_18 : decode cX2_tellRight 18 = .ok (.return_, 1) := by decide +kernel
theorem dX2_judge_0 : decode cX2_judge 0 = .ok (.aload_n 0, 1) := by decide +kernel
theorem dX2_judge_1 : decode cX2_judge 1 = .ok (.invokevirtual 53, 3) := by decide +kernel
theorem dX2_judge_4 : decode cX2_judge 4 = .ok (.istore_n 1, 1) := by decide +kernel
theorem dX2_judge_5 : decode cX2_judge 5 = .ok (.iload_n 1, 1) := by decide +kernel
theorem dX2_judge_6 : decode cX2_judge 6 = .ok (.iconst (-1), 1) := by decide +kernel
theorem dX2_judge_7 : decode cX2_judge 7 = .ok (.if_icmp .ne 5, 3) := by decide +kernel
theorem dX2_judge_10 : decode cX2_judge 10 = .ok (.iconst 0, 1) := by decide +kernel
theorem dX2_judge_11 : decode cX2_judge 11 = .ok (.ireturn, 1) := by decide +kernel
theorem dX2_judge_12 : decode cX2_judge 12 = .ok (.aload_n 0, 1) := by decide +kernel
theorem dX2_judge_13 : decode cX2_judge 13 = .ok (.iload_n 1, 1) := by decide +kernel
theorem dX2_judge_14 : decode cX2_judge 14 = .ok (.invokevirtual 56, 3) := by decide +kernel
theorem dX2_judge_17 : decode cX2_judge 17 = .ok (.istore_n 2, 1) := by decide +kernel
theorem dX2_judge_18 : decode cX2_judge 18 = .ok (.aload_n 0, 1) := by decide +kernel
theorem dX2_judge_19 : decode cX2_judge 19 = .ok (.getfield 25, 3) := by decide +kernel
theorem dX2_judge_22 : decode cX2_judge 22 = .ok (.ifCond .ne 15, 3) := by decide +kernel
theorem dX2_judge_25 : decode cX2_judge 25 = .ok (.aload_n 0, 1) := by decide +kernel
theorem dX2_judge_26 : decode cX2_judge 26 = .ok (.iload_n 1, 1) := by decide +kernel
theorem dX2_judge_27 : decode cX2_judge 27 = .ok (.invokevirtual 60, 3) := by decide +kernel
theorem dX2_judge_30 : decode cX2_judge 30 = .ok (.aload_n 0, 1) := by decide +kernel
theorem dX2_judge_31 : decode cX2_judge 31 = .ok (.iload_n 2, 1) := by decide +kernel
theorem dX2_judge_32 : decode cX2_judge 32 = .ok (.invokevirtual 60, 3) := by decide +kernel
theorem dX2_judge_35 : decode cX2_judge 35 = .ok (.ior, 1) := by decide +kernel
theorem dX2_judge_36 : decode cX2_judge 36 = .ok (.ireturn, 1) := by decide +kernel
theorem dX2_judge_37 : decode cX2_judge 37 = .ok (.iload_n 2, 1) := by decide +kernel
theorem dX2_judge_38 : decode cX2_judge 38 = .ok (.iconst (-1), 1) := by decide +kernel
theorem dX2_judge_39 : decode cX2_judge 39 = .ok (.if_icmp .ne 9, 3) := by decide +kernel
theorem dX2_judge_42 : decode cX2_judge 42 = .ok (.aload_n 0, 1) := by decide +kernel
theorem dX2_judge_43 : decode cX2_judge 43 = .ok (.iload_n 1, 1) := by decide +kernel
theorem dX2_judge_44 : decode cX2_judge 44 = .ok (.invokevirtual 60, 3) := by decide +kernel
theorem dX2_judge_47 : decode cX2_judge 47 = .ok (.ireturn, 1) := by decide +kernel
theorem dX2_judge_48 : decode cX2_judge 48 = .ok (.aload_n 0, 1) := by decide +kernel
theorem dX2_judge_49 : decode cX2_judge 49 = .ok (.iload_n 1, 1) := by decide +kernel
theorem dX2_judge_50 : decode cX2_judge 50 = .ok (.invokevirtual 63, 3) := by decide +kernel
theorem dX2_judge_53 : decode cX2_judge 53 = .ok (.istore_n 3, 1) := by decide +kernel
theorem dX2_judge_54 : decode cX2_judge 54 = .ok (.iload_n 3, 1) := by decide +kernel
theorem dX2_judge_55 : decode cX2_judge 55 = .ok (.iconst (-1), 1) := by decide +kernel
theorem dX2_judge_56 : decode cX2_judge 56 = .ok (.if_icmp .ne 5, 3) := by decide +kernel
theorem dX2_judge_59 : decode cX2_judge 59 = .ok (.iconst 0, 1) := by decide +kernel
theorem dX2_judge_60 : decode cX2_judge 60 = .ok (.ireturn, 1) := by decide +kernel
theorem dX2_judge_61 : decode cX2_judge 61 = .ok (.aload_n 0, 1) := by decide +kernel
theorem dX2_judge_62 : decode cX2_judge 62 = .ok (.aload_n 0, 1) := by decide +kernel
theorem dX2_judge_63 : decode cX2_judge 63 = .ok (.getfield 15, 3) := by decide +kernel
theorem dX2_judge_66 : decode cX2_judge 66 = .ok (.iload_n 1, 1) := by decide +kernel
theorem dX2_judge_67 : decode cX2_judge 67 = .ok (.iaload, 1) := by decide +kernel
theorem dX2_judge_68 : decode cX2_judge 68 = .ok (.iload_n 3, 1) := by decide +kernel
theorem dX2_judge_69 : decode cX2_judge 69 = .ok (.if_icmp .ne 7, 3) := by decide +kernel
theorem dX2_judge_72 : decode cX2_judge 72 = .ok (.iload_n 1, 1) := by decide +kernel
theorem dX2_judge_73 : decode cX2_judge 73 = .ok (.goto 4, 3) := by decide +kernel
theorem dX2_judge_76 : decode cX2_judge 76 = .ok (.iload_n 2, 1) := by decide +kernel
theorem dX2_judge_77 : decode cX2_judge 77 = .ok (.invokevirtual 60, 3) := by decide +kernel
theorem dX2_judge_80 : decode cX2_judge 80 = .ok (.ireturn, 1) := by decide +kernel
theorem dX2_withoutStruck_0 : decode cX2_withoutStruck 0 = .ok (.iload_n 1, 1) := by decide +kernel
theorem dX2_withoutStruck_1 : decode cX2_withoutStruck 1 = .ok (.istore_n 3, 1) := by decide +kernel
theorem dX2_withoutStruck_2 : decode cX2_withoutStruck 2 = .ok (.aload_n 0, 1) := by decide +kernel
theorem dX2_withoutStruck_3 : decode cX2_withoutStruck 3 = .ok (.getfield 29, 3) := by decide +kernel
theorem dX2_withoutStruck_6 : decode cX2_withoutStruck 6 = .ok (.iload_n 2, 1) := by decide +kernel
theorem dX2_withoutStruck_7 : decode cX2_withoutStruck 7 = .ok (.invokevirtual 66, 3) := by decide +kernel
theorem dX2_withoutStruck_10 : decode cX2_withoutStruck 10 = .ok (.ifCond .eq 7, 3) := by decide +kernel
theorem dX2_withoutStruck_13 : decode cX2_withoutStruck 13 = .ok (.iload_n 3, 1) := by decide +kernel
theorem dX2_withoutStruck_14 : decode cX2_withoutStruck 14 = .ok (.iconst 2, 1) := by decide +kernel
theorem dX2_withoutStruck_15 : decode cX2_withoutStruck 15 = .ok (.iand, 1) := by decide +kernel
theorem dX2_withoutStruck_16 : decode cX2_withoutStruck 16 = .ok (.istore_n 3, 1) := by decide +kernel
theorem dX2_withoutStruck_17 : decode cX2_withoutStruck 17 = .ok (.aload_n 0, 1) := by decide +kernel
theorem dX2_withoutStruck_18 : decode cX2_withoutStruck 18 = .ok (.getfield 33, 3) := by decide +kernel
theorem dX2_withoutStruck_21 : decode cX2_withoutStruck 21 = .ok (.iload_n 2, 1) := by decide +kernel
theorem dX2_withoutStruck_22 : decode cX2_withoutStruck 22 = .ok (.invokevirtual 66, 3) := by decide +kernel
theorem dX2_withoutStruck_25 : decode cX2_withoutStruck 25 = .ok (.ifCond .eq 7, 3) := by decide +kernel
theorem dX2_withoutStruck_28 : decode cX2_withoutStruck 28 = .ok (.iload_n 3, 1) := by decide +kernel
theorem dX2_withoutStruck_29 : decode cX2_withoutStruck 29 = .ok (.iconst 1, 1) := by decide +kernel
theorem dX2_withoutStruck_30 : decode cX2_withoutStruck 30 = .ok (.iand, 1) := by decide +kernel
theorem dX2_withoutStruck_31 : decode cX2_withoutStruck 31 = .ok (.istore_n 3, 1) := by decide +kernel
theorem dX2_withoutStruck_32 : decode cX2_withoutStruck 32 = .ok (.iload_n 3, 1) := by decide +kernel
theorem dX2_withoutStruck_33 : decode cX2_withoutStruck 33 = .ok (.ireturn, 1) := by decide +kernel
theorem dX2_isALight_0 : decode cX2_isALight 0 = .ok (.aload_n 0, 1) := by decide +kernel
theorem dX2_isALight_1 : decode cX2_isALight 1 = .ok (.getfield 9, 3) := by decide +kernel
theorem dX2_isALight_4 : decode cX2_isALight 4 = .ok (.iload_n 1, 1) := by decide +kernel
theorem dX2_isALight_5 : decode cX2_isALight 5 = .ok (.iaload, 1) := by decide +kernel
theorem dX2_isALight_6 : decode cX2_isALight 6 = .ok (.ifCond .eq 20, 3) := by decide +kernel
theorem dX2_isALight_9 : decode cX2_isALight 9 = .ok (.aload_n 0, 1) := by decide +kernel
theorem dX2_isALight_10 : decode cX2_isALight 10 = .ok (.getfield 25, 3) := by decide +kernel
theorem dX2_isALight_13 : decode cX2_isALight 13 = .ok (.ifCond .eq 17, 3) := by decide +kernel
theorem dX2_isALight_16 : decode cX2_isALight 16 = .ok (.aload_n 0, 1) := by decide +kernel
theorem dX2_isALight_17 : decode cX2_isALight 17 = .ok (.getfield 9, 3) := by decide +kernel
theorem dX2_isALight_20 : decode cX2_isALight 20 = .ok (.iload_n 1, 1) := by decide +kernel
theorem dX2_isALight_21 : decode cX2_isALight 21 = .ok (.iaload, 1) := by decide +kernel
theorem dX2_isALight_22 : decode cX2_isALight 22 = .ok (.iconst 1, 1) := by decide +kernel
theorem dX2_isALight_23 : decode cX2_isALight 23 = .ok (.if_icmp .ne 7, 3) := by decide +kernel
theorem dX2_isALight_26 : decode cX2_isALight 26 = .ok (.iconst 1, 1) := by decide +kernel
theorem dX2_isALight_27 : decode cX2_isALight 27 = .ok (.goto 4, 3) := by decide +kernel
theorem dX2_isALight_30 : decode cX2_isALight 30 = .ok (.iconst 0, 1) := by decide +kernel
theorem dX2_isALight_31 : decode cX2_isALight 31 = .ok (.ireturn, 1) := by decide +kernel
theorem dX2_firstLight_0 : decode cX2_firstLight 0 = .ok (.iconst 0, 1) := by decide +kernel
theorem dX2_firstLight_1 : decode cX2_firstLight 1 = .ok (.istore_n 1, 1) := by decide +kernel
theorem dX2_firstLight_2 : decode cX2_firstLight 2 = .ok (.iload_n 1, 1) := by decide +kernel
theorem dX2_firstLight_3 : decode cX2_firstLight 3 = .ok (.aload_n 0, 1) := by decide +kernel
theorem dX2_firstLight_4 : decode cX2_firstLight 4 = .ok (.getfield 36, 3) := by decide +kernel
theorem dX2_firstLight_7 : decode cX2_firstLight 7 = .ok (.if_icmp .ge 25, 3) := by decide +kernel
theorem dX2_firstLight_10 : decode cX2_firstLight 10 = .ok (.iload_n 1, 1) := by decide +kernel
theorem dX2_firstLight_11 : decode cX2_firstLight 11 = .ok (.bipush 8, 2) := by decide +kernel
theorem dX2_firstLight_13 : decode cX2_firstLight 13 = .ok (.if_icmp .ge 19, 3) := by decide +kernel
theorem dX2_firstLight_16 : decode cX2_firstLight 16 = .ok (.aload_n 0, 1) := by decide +kernel
theorem dX2_firstLight_17 : decode cX2_firstLight 17 = .ok (.iload_n 1, 1) := by decide +kernel
theorem dX2_firstLight_18 : decode cX2_firstLight 18 = .ok (.invokevirtual 72, 3) := by decide +kernel
theorem dX2_firstLight_21 : decode cX2_firstLight 21 = .ok (.ifCond .eq 5, 3) := by decide +kernel
theorem dX2_firstLight_24 : decode cX2_firstLight 24 = .ok (.iload_n 1, 1) := by decide +kernel
theorem dX2_firstLight_25 : decode cX2_firstLight 25 = .ok (.ireturn, 1) := by decide +kernel
theorem dX2_firstLight_26 : decode cX2_firstLight 26 = .ok (.iinc 1 1, 3) := by decide +kernel
theorem dX2_firstLight_29 : decode cX2_firstLight 29 = .ok (.goto (-27), 3) := by decide +kernel
theorem dX2_firstLight_32 : decode cX2_firstLight 32 = .ok (.iconst (-1), 1) := by decide +kernel
theorem dX2_firstLight_33 : decode cX2_firstLight 33 = .ok (.ireturn, 1) := by decide +kernel
theorem dX2_otherLight_0 : decode cX2_otherLight 0 = .ok (.aload_n 0, 1) := by decide +kernel
theorem dX2_otherLight_1 : decode cX2_otherLight 1 = .ok (.getfield 25, 3) := by decide +kernel
theorem dX2_otherLight_4 : decode cX2_otherLight 4 = .ok (.ifCond .eq 9, 3) := by decide +kernel
theorem dX2_otherLight_7 : decode cX2_otherLight 7 = .ok (.sipush 300, 3) := by decide +kernel
theorem dX2_otherLight_10 : decode cX2_otherLight 10 = .ok (.goto 5, 3) := by decide +kernel
theorem dX2_otherLight_13 : decode cX2_otherLight 13 = .ok (.bipush 40, 2) := by decide +kernel
theorem dX2_otherLight_15 : decode cX2_otherLight 15 = .ok (.istore_n 2, 1) := by decide +kernel
theorem dX2_otherLight_16 : decode cX2_otherLight 16 = .ok (.iload_n 1, 1) := by decide +kernel
theorem dX2_otherLight_17 : decode cX2_otherLight 17 = .ok (.iconst 1, 1) := by decide +kernel
theorem dX2_otherLight_18 : decode cX2_otherLight 18 = .ok (.iadd, 1) := by decide +kernel
theorem dX2_otherLight_19 : decode cX2_otherLight 19 = .ok (.istore_n 3, 1) := by decide +kernel
theorem dX2_otherLight_20 : decode cX2_otherLight 20 = .ok (.iload_n 3, 1) := by decide +kernel
theorem dX2_otherLight_21 : decode cX2_otherLight 21 = .ok (.aload_n 0, 1) := by decide +kernel
theorem dX2_otherLight_22 : decode cX2_otherLight 22 = .ok (.getfield 36, 3) := by decide +kernel
theorem dX2_otherLight_25 : decode cX2_otherLight 25 = .ok (.if_icmp .ge 69, 3) := by decide +kernel
theorem dX2_otherLight_28 : decode cX2_otherLight 28 = .ok (.iload_n 3, 1) := by decide +kernel
theorem dX2_otherLight_29 : decode cX2_otherLight 29 = .ok (.bipush 8, 2) := by decide +kernel
theorem dX2_otherLight_31 : decode cX2_otherLight 31 = .ok (.if_icmp .ge 63, 3) := by decide +kernel
theorem dX2_otherLight_34 : decode cX2_otherLight 34 = .ok (.aload_n 0, 1) := by decide +kernel
theorem dX2_otherLight_35 : decode cX2_otherLight 35 = .ok (.getfield 18, 3) := by decide +kernel
theorem dX2_otherLight_38 : decode cX2_otherLight 38 = .ok (.iload_n 3, 1) := by decide +kernel
theorem dX2_otherLight_39 : decode cX2_otherLight 39 = .ok (.iaload, 1) := by decide +kernel
theorem dX2_otherLight_40 : decode cX2_otherLight 40 = .ok (.aload_n 0, 1) := by decide +kernel
theorem dX2_otherLight_41 : decode cX2_otherLight 41 = .ok (.getfield 18, 3) := by decide +kernel
theorem dX2_otherLight_44 : decode cX2_otherLight 44 = .ok (.iload_n 1, 1) := by decide +kernel
theorem dX2_otherLight_45 : decode cX2_otherLight 45 = .ok (.iaload, 1) := by decide +kernel
theorem dX2_otherLight_46 : decode cX2_otherLight 46 = .ok (.isub, 1) := by decide +kernel
theorem dX2_otherLight_47 : decode cX2_otherLight 47 = .ok (.iload_n 2, 1) := by decide +kernel
theorem dX2_otherLight_48 : decode cX2_otherLight 48 = .ok (.if_icmp .gt 7, 3) := by decide +kernel
theorem dX2_otherLight_51 : decode cX2_otherLight 51 = .ok (.iconst 1, 1) := by decide +kernel
theorem dX2_otherLight_52 : decode cX2_otherLight 52 = .ok (.goto 4, 3) := by decide +kernel
theorem dX2_otherLight_55 : decode cX2_otherLight 55 = .ok (.iconst 0, 1) := by decide +kernel
theorem dX2_otherLight_56 : decode cX2_otherLight 56 = .ok (.istore 4, 2) := by decide +kernel
theorem dX2_otherLight_58 : decode cX2_otherLight 58 = .ok (.iload 4, 2) := by decide +kernel
theorem dX2_otherLight_60 : decode cX2_otherLight 60 = .ok (.ifCond .eq 28, 3) := by decide +kernel
theorem dX2_otherLight_63 : decode cX2_otherLight 63 = .ok (.aload_n 0, 1) := by decide +kernel
theorem dX2_otherLight_64 : decode cX2_otherLight 64 = .ok (.iload_n 3, 1) := by decide +kernel
theorem dX2_otherLight_65 : decode cX2_otherLight 65 = .ok (.invokevirtual 72, 3) := by decide +kernel
theorem dX2_otherLight_68 : decode cX2_otherLight 68 = .ok (.ifCond .eq 20, 3) := by decide +kernel
theorem dX2_otherLight_71 : decode cX2_otherLight 71 = .ok (.aload_n 0, 1) := by decide +kernel
theorem dX2_otherLight_72 : decode cX2_otherLight 72 = .ok (.getfield 15, 3) := by decide +kernel
theorem dX2_otherLight_75 : decode cX2_otherLight 75 = .ok (.iload_n 3, 1) := by decide +kernel
theorem dX2_otherLight_76 : decode cX2_otherLight 76 = .ok (.iaload, 1) := by decide +kernel
theorem dX2_otherLight_77 : decode cX2_otherLight 77 = .ok (.aload_n 0, 1) := by decide +kernel
theorem dX2_otherLight_78 : decode cX2_otherLight 78 = .ok (.getfield 15, 3) := by decide +kernel
theorem dX2_otherLight_81 : decode cX2_otherLight 81 = .ok (.iload_n 1, 1) := by decide +kernel
theorem dX2_otherLight_82 : decode cX2_otherLight 82 = .ok (.iaload, 1) := by decide +kernel
theorem dX2_otherLight_83 : decode cX2_otherLight 83 = .ok (.if_icmp .eq 5, 3) := by decide +kernel
theorem dX2_otherLight_86 : decode cX2_otherLight 86 = .ok (.iload_n 3, 1) := by decide +kernel
theorem dX2_otherLight_87 : decode cX2_otherLight 87 = .ok (.ireturn, 1) := by decide +kernel
theorem dX2_otherLight_88 : decode cX2_otherLight 88 = .ok (.iinc 3 1, 3) := by decide +kernel
theorem dX2_otherLight_91 : decode cX2_otherLight 91 = .ok (.goto (-71), 3) := by decide +kernel
theorem dX2_otherLight_94 : decode cX2_otherLight 94 = .ok (.iconst (-1), 1) := by decide +kernel
theorem dX2_otherLight_95 : decode cX2_otherLight 95 = .ok (.ireturn, 1) := by decide +kernel
theorem dX2_rightAt_0 : decode cX2_rightAt 0 = .ok (.aload_n 0, 1) := by decide +kernel
theorem dX2_rightAt_1 : decode cX2_rightAt 1 = .ok (.getfield 43, 3) := by decide +kernel
theorem dX2_rightAt_4 : decode cX2_rightAt 4 = .ok (.ifCond .eq 8, 3) := by decide +kernel
theorem dX2_rightAt_7 : decode cX2_rightAt 7 = .ok (.aload_n 0, 1) := by decide +kernel
theorem dX2_rightAt_8 : decode cX2_rightAt 8 = .ok (.getfield 21, 3) := by decide +kernel
theorem dX2_rightAt_11 : decode cX2_rightAt 11 = .ok (.ireturn, 1) := by decide +kernel
theorem dX2_rightAt_12 : decode cX2_rightAt 12 = .ok (.iconst (-1), 1) := by decide +kernel
theorem dX2_rightAt_13 : decode cX2_rightAt 13 = .ok (.istore_n 2, 1) := by decide +kernel
theorem dX2_rightAt_14 : decode cX2_rightAt 14 = .ok (.iconst 0, 1) := by decide +kernel
theorem dX2_rightAt_15 : decode cX2_rightAt 15 = .ok (.istore_n 3, 1) := by decide +kernel
theorem dX2_rightAt_16 : decode cX2_rightAt 16 = .ok (.iload_n 3, 1) := by decide +kernel
theorem dX2_rightAt_17 : decode cX2_rightAt 17 = .ok (.iload_n 1, 1) := by decide +kernel
theorem dX2_rightAt_18 : decode cX2_rightAt 18 = .ok (.if_icmp .ge 32, 3) := by decide +kernel
theorem dX2_rightAt_21 : decode cX2_rightAt 21 = .ok (.iload_n 3, 1) := by decide +kernel
theorem dX2_rightAt_22 : decode cX2_rightAt 22 = .ok (.bipush 8, 2) := by decide +kernel
theorem dX2_rightAt_24 : decode cX2_rightAt 24 = .ok (.if_icmp .ge 26, 3) := by decide +kernel
theorem dX2_rightAt_27 : decode cX2_rightAt 27 = .ok (.aload_n 0, 1) := by decide +kernel
theorem dX2_rightAt_28 : decode cX2_rightAt 28 = .ok (.getfield 9, 3) := by decide +kernel
theorem dX2_rightAt_31 : decode cX2_rightAt 31 = .ok (.iload_n 3, 1) := by decide +kernel
theorem dX2_rightAt_32 : decode cX2_rightAt 32 = .ok (.iaload, 1) := by decide +kernel
theorem dX2_rightAt_33 : decode cX2_rightAt 33 = .ok (.iconst 2, 1) := by decide +kernel
theorem dX2_rightAt_34 : decode cX2_rightAt 34 = .ok (.if_icmp .ne 10, 3) := by decide +kernel
theorem dX2_rightAt_37 : decode cX2_rightAt 37 = .ok (.aload_n 0, 1) := by decide +kernel
theorem dX2_rightAt_38 : decode cX2_rightAt 38 = .ok (.getfield 15, 3) := by decide +kernel
theorem dX2_rightAt_41 : decode cX2_rightAt 41 = .ok (.iload_n 3, 1) := by decide +kernel
theorem dX2_rightAt_42 : decode cX2_rightAt 42 = .ok (.iaload, 1) := by decide +kernel
theorem dX2_rightAt_43 : decode cX2_rightAt 43 = .ok (.istore_n 2, 1) := by decide +kernel
theorem dX2_rightAt_44 : decode cX2_rightAt 44 = .ok (.iinc 3 1, 3) := by decide +kernel
theorem dX2_rightAt_47 : decode cX2_rightAt 47 = .ok (.goto (-31), 3) := by decide +kernel
theorem dX2_rightAt_50 : decode cX2_rightAt 50 = .ok (.iload_n 2, 1) := by decide +kernel
theorem dX2_rightAt_51 : decode cX2_rightAt 51 = .ok (.ireturn, 1) := by decide +kernel
theorem dX2_touchOf_0 : decode cX2_touchOf 0 = .ok (.iload_n 1, 1) := by decide +kernel
theorem dX2_touchOf_1 : decode cX2_touchOf 1 = .ok (.ifCond .lt 18, 3) := by decide +kernel
theorem dX2_touchOf_4 : decode cX2_touchOf 4 = .ok (.iload_n 1, 1) := by decide +kernel
theorem dX2_touchOf_5 : decode cX2_touchOf 5 = .ok (.bipush 8, 2) := by decide +kernel
theorem dX2_touchOf_7 : decode cX2_touchOf 7 = .ok (.if_icmp .ge 12, 3) := by decide +kernel
theorem dX2_touchOf_10 : decode cX2_touchOf 10 = .ok (.aload_n 0, 1) := by decide +kernel
theorem dX2_touchOf_11 : decode cX2_touchOf 11 = .ok (.getfield 9, 3) := by decide +kernel
theorem dX2_touchOf_14 : decode cX2_touchOf 14 = .ok (.iload_n 1, 1) := by decide +kernel
theorem dX2_touchOf_15 : decode cX2_touchOf 15 = .ok (.iaload, 1) := by decide +kernel
theorem dX2_touchOf_16 : decode cX2_touchOf 16 = .ok (.ifCond .eq 5, 3) := by decide +kernel
theorem dX2_touchOf_19 : decode cX2_touchOf 19 = .ok (.iconst 0, 1) := by decide +kernel
theorem dX2_touchOf_20 : decode cX2_touchOf 20 = .ok (.ireturn, 1) := by decide +kernel
theorem dX2_touchOf_21 : decode cX2_touchOf 21 = .ok (.aload_n 0, 1) := by decide +kernel
theorem dX2_touchOf_22 : decode cX2_touchOf 22 = .ok (.getfield 15, 3) := by decide +kernel
theorem dX2_touchOf_25 : decode cX2_touchOf 25 = .ok (.iload_n 1, 1) := by decide +kernel
theorem dX2_touchOf_26 : decode cX2_touchOf 26 = .ok (.iaload, 1) := by decide +kernel
theorem dX2_touchOf_27 : decode cX2_touchOf 27 = .ok (.ifCond .ne 7, 3) := by decide +kernel
theorem dX2_touchOf_30 : decode cX2_touchOf 30 = .ok (.iconst 1, 1) := by decide +kernel
theorem dX2_touchOf_31 : decode cX2_touchOf 31 = .ok (.goto 4, 3) := by decide +kernel
theorem dX2_touchOf_34 : decode cX2_touchOf 34 = .ok (.iconst 2, 1) := by decide +kernel
theorem dX2_touchOf_35 : decode cX2_touchOf 35 = .ok (.ireturn, 1) := by decide +kernel
theorem dX3_init_0 : decode cX3_init 0 = .ok (.aload_n 0, 1) := by decide +kernel
theorem dX3_init_1 : decode cX3_init 1 = .ok (.invokespecial 3, 3) := by decide +kernel
theorem dX3_init_4 : decode cX3_init 4 = .ok (.aload_n 0, 1) := by decide +kernel
theorem dX3_init_5 : decode cX3_init 5 = .ok (.iconst (-1), 1) := by decide +kernel
theorem dX3_init_6 : decode cX3_init 6 = .ok (.putfield 9, 3) := by decide +kernel
theorem dX3_init_9 : decode cX3_init 9 = .ok (.return_, 1) := by decide +kernel
theorem dX3_take_0 : decode cX3_take 0 = .ok (.aload_n 0, 1) := by decide +kernel
theorem dX3_take_1 : decode cX3_take 1 = .ok (.iload_n 1, 1) := by decide +kernel
theorem dX3_take_2 : decode cX3_take 2 = .ok (.putfield 9, 3) := by decide +kernel
theorem dX3_take_5 : decode cX3_take 5 = .ok (.aload_n 0, 1) := by decide +kernel
theorem dX3_take_6 : decode cX3_take 6 = .ok (.aload_n 2, 1) := by decide +kernel
theorem dX3_take_7 : decode cX3_take 7 = .ok (.putfield 15, 3) := by decide +kernel
theorem dX3_take_10 : decode cX3_take 10 = .ok (.aload_n 0, 1) := by decide +kernel
theorem dX3_take_11 : decode cX3_take 11 = .ok (.aload_n 3, 1) := by decide +kernel
theorem dX3_take_12 : decode cX3_take 12 = .ok (.putfield 19, 3) := by decide +kernel
theorem dX3_take_15 : decode cX3_take 15 = .ok (.aload_n 0, 1) := by decide +kernel
theorem dX3_take_16 : decode cX3_take 16 = .ok (.aload 4, 2) := by decide +kernel
theorem dX3_take_18 : decode cX3_take 18 = .ok (.putfield 23, 3) := by decide +kernel
theorem dX3_take_21 : decode cX3_take 21 = .ok (.aload_n 0, 1) := by decide +kernel
theorem dX3_take_22 : decode cX3_take 22 = .ok (.aconst_null, 1) := by decide +kernel
theorem dX3_take_23 : decode cX3_take 23 = .ok (.putfield 26, 3) := by decide +kernel
theorem dX3_take_26 : decode cX3_take 26 = .ok (.aload_n 0, 1) := by decide +kernel
theorem dX3_take_27 : decode cX3_take 27 = .ok (.iconst 0, 1) := by decide +kernel
theorem dX3_take_28 : decode cX3_take 28 = .ok (.putfield 30, 3) := by decide +kernel
theorem dX3_take_31 : decode cX3_take 31 = .ok (.return_, 1) := by decide +kernel
theorem dX3_empty_0 : decode cX3_empty 0 = .ok (.aload_n 0, 1) := by decide +kernel
theorem dX3_empty_1 : decode cX3_empty 1 = .ok (.iconst (-1), 1) := by decide +kernel
theorem dX3_empty_2 : decode cX3_empty 2 = .ok (.aconst_null, 1) := by decide +kernel
theorem dX3_empty_3 : decode cX3_empty 3 = .ok (.aconst_null, 1) := by decide +kernel
theorem dX3_empty_4 : decode cX3_empty 4 = .ok (.aconst_null, 1) := by decide +kernel
theorem dX3_empty_5 : decode cX3_empty 5 = .ok (.invokevirtual 34, 3) := by decide +kernel
theorem dX3_empty_8 : decode cX3_empty 8 = .ok (.return_, 1) := by decide +kernel
theorem dX3_weaponNumber_0 : decode cX3_weaponNumber 0 = .ok (.iload_n 1, 1) := by decide +kernel
theorem dX3_weaponNumber_1 : decode cX3_weaponNumber 1 = .ok (.ifCond .ne 10, 3) := by decide +kernel
theorem dX3_weaponNumber_4 : decode cX3_weaponNumber 4 = .ok (.aload_n 0, 1) := by decide +kernel
theorem dX3_weaponNumber_5 : decode cX3_weaponNumber 5 = .ok (.getfield 19, 3) := by decide +kernel
theorem dX3_weaponNumber_8 : decode cX3_weaponNumber 8 = .ok (.goto 7, 3) := by decide +kernel
theorem dX3_weaponNumber_11 : decode cX3_weaponNumber 11 = .ok (.aload_n 0, 1) := by decide +kernel
theorem dX3_weaponNumber_12 : decode cX3_weaponNumber 12 = .ok (.getfield 23, 3) := by decide +kernel
theorem dX3_weaponNumber_15 : decode cX3_weaponNumber 15 = .ok (.astore_n 2, 1) := by decide +kernel
theorem dX3_weaponNumber_16 : decode cX3_weaponNumber 16 = .ok (.aload_n 2, 1) := by decide +kernel
theorem dX3_weaponNumber_17 : decode cX3_weaponNumber 17 = .ok (.ifnonnull 7, 3) := by decide +kernel
theorem dX3_weaponNumber_20 : decode cX3_weaponNumber 20 = .ok (.iconst (-1), 1) := by decide +kernel
theorem dX3_weaponNumber_21 : decode cX3_weaponNumber 21 = .ok (.goto 7, 3) := by decide +kernel
theorem dX3_weaponNumber_24 : decode cX3_weaponNumber 24 = .ok (.aload_n 2, 1) := by decide +kernel
theorem dX3_weaponNumber_25 : decode cX3_weaponNumber 25 = .ok (.getfield 38, 3) := by decide +kernel
theorem dX3_weaponNumber_28 : decode cX3_weaponNumber 28 = .ok (.ireturn, 1) := by decide +kernel
theorem dX3_arm_0 : decode cX3_arm 0 = .ok (.iload_n 1, 1) := by decide +kernel
theorem dX3_arm_1 : decode cX3_arm 1 = .ok (.ifCond .ne 11, 3) := by decide +kernel
theorem dX3_arm_4 : decode cX3_arm 4 = .ok (.aload_n 0, 1) := by decide +kernel
theorem dX3_arm_5 : decode cX3_arm 5 = .ok (.aload_n 2, 1) := by decide +kernel
theorem dX3_arm_6 : decode cX3_arm 6 = .ok (.putfield 19, 3) := by decide +kernel
theorem dX3_arm_9 : decode cX3_arm 9 = .ok (.goto 8, 3) := by decide +kernel
theorem dX3_arm_12 : decode cX3_arm 12 = .ok (.aload_n 0, 1) := by decide +kernel
theorem dX3_arm_13 : decode cX3_arm 13 = .ok (.aload_n 2, 1) := by decide +kernel
theorem dX3_arm_14 : decode cX3_arm 14 = .ok (.putfield 23, 3) := by decide +kernel
theorem dX3_arm_17 : decode cX3_arm 17 = .ok (.return_, 1) := by decide +kernel
theorem dX4_init_0 : decode cX4_init 0 = .ok (.aload_n 0, 1) := by decide +kernel
theorem dX4_init_1 : decode cX4_init 1 = .ok (.invokespecial 3, 3) := by decide +kernel
theorem dX4_init_4 : decode cX4_init 4 = .ok (.aload_n 0, 1) := by decide +kernel
theorem dX4_init_5 : decode cX4_init 5 = .ok (.bipush 16, 2) := by decide +kernel
theorem dX4_init_7 : decode cX4_init 7 = .ok (.newarray .int, 2) := by decide +kernel
theorem dX4_init_9 : decode cX4_init 9 = .ok (.putfield 9, 3) := by decide +kernel
theorem dX4_init_12 : decode cX4_init 12 = .ok (.aload_n 0, 1) := by decide +kernel
theorem dX4_init_13 : decode cX4_init 13 = .ok (.bipush 32, 2) := by decide +kernel
theorem dX4_init_15 : decode cX4_init 15 = .ok (.newarray .int, 2) := by decide +kernel
theorem dX4_init_17 : decode cX4_init 17 = .ok (.putfield 15, 3) := by decide +kernel
theorem dX4_init_20 : decode cX4_init 20 = .ok (.aload_n 0, 1) := by decide +kernel
theorem dX4_init_21 : decode cX4_init 21 = .ok (.bipush 16, 2) := by decide +kernel
theorem dX4_init_23 : decode cX4_init 23 = .ok (.anewarray 18, 3) := by decide +kernel
theorem dX4_init_26 : decode cX4_init 26 = .ok (.putfield 20, 3) := by decide +kernel
theorem dX4_init_29 : decode cX4_init 29 = .ok (.return_, 1) := by decide +kernel
theorem dX4_isDrawn_0 : decode cX4_isDrawn 0 = .ok (.aload_n 0, 1) := by decide +kernel
theorem dX4_isDrawn_1 : decode cX4_isDrawn 1 = .ok (.getfield 24, 3) := by decide +kernel
theorem dX4_isDrawn_4 : decode cX4_isDrawn 4 = .ok (.ifCond .le 7, 3) := by decide +kernel
theorem dX4_isDrawn_7 : decode cX4_isDrawn 7 = .ok (.iconst 1, 1) := by decide +kernel
theorem dX4_isDrawn_8 : decode cX4_isDrawn 8 = .ok (.goto 4, 3) := by decide +kernel
theorem dX4_isDrawn_11 : decode cX4_isDrawn 11 = .ok (.iconst 0, 1) := by decide +kernel
theorem dX4_isDrawn_12 : decode cX4_isDrawn 12 = .ok (.ireturn, 1) := by decide +kernel
theorem dX4_hasNode_0 : decode cX4_hasNode 0 = .ok (.iload_n 1, 1) := by decide +kernel
theorem dX4_hasNode_1 : decode cX4_hasNode 1 = .ok (.iconst 1, 1) := by decide +kernel
theorem dX4_hasNode_2 : decode cX4_hasNode 2 = .ok (.if_icmp .lt 23, 3) := by decide +kernel
theorem dX4_hasNode_5 : decode cX4_hasNode 5 = .ok (.iload_n 1, 1) := by decide +kernel
theorem dX4_hasNode_6 : decode cX4_hasNode 6 = .ok (.iconst 2, 1) := by decide +kernel
theorem dX4_hasNode_7 : decode cX4_hasNode 7 = .ok (.aload_n 0, 1) := by decide +kernel
theorem dX4_hasNode_8 : decode cX4_hasNode 8 = .ok (.getfield 24, 3) := by decide +kernel
theorem dX4_hasNode_11 : decode cX4_hasNode 11 = .ok (.imul, 1) := by decide +kernel
theorem dX4_hasNode_12 : decode cX4_hasNode 12 = .ok (.if_icmp .ge 13, 3) := by decide +kernel
theorem dX4_hasNode_15 : decode cX4_hasNode 15 = .ok (.iload_n 1, 1) := by decide +kernel
theorem dX4_hasNode_16 : decode cX4_hasNode 16 = .ok (.bipush 32, 2) := by decide +kernel
theorem dX4_hasNode_18 : decode cX4_hasNode 18 = .ok (.if_icmp .ge 7, 3) := by decide +kernel
theorem dX4_hasNode_21 : decode cX4_hasNode 21 = .ok (.iconst 1, 1) := by decide +kernel
theorem dX4_hasNode_22 : decode cX4_hasNode 22 = .ok (.goto 4, 3) := by decide +kernel
theorem dX4_hasNode_25 : decode cX4_hasNode 25 = .ok (.iconst 0, 1) := by decide +kernel
theorem dX4_hasNode_26 : decode cX4_hasNode 26 = .ok (.ireturn, 1) := by decide +kernel
theorem dX4_winnerAt_0 : decode cX4_winnerAt 0 = .ok (.aload_n 0, 1) := by decide +kernel
theorem dX4_winnerAt_1 : decode cX4_winnerAt 1 = .ok (.iload_n 1, 1) := by decide +kernel
theorem dX4_winnerAt_2 : decode cX4_winnerAt 2 = .ok (.invokevirtual 28, 3) := by decide +kernel
theorem dX4_winnerAt_5 : decode cX4_winnerAt 5 = .ok (.ifCond .eq 12, 3) := by decide +kernel
theorem dX4_winnerAt_8 : decode cX4_winnerAt 8 = .ok (.aload_n 0, 1) := by decide +kernel
theorem dX4_winnerAt_9 : decode cX4_winnerAt 9 = .ok (.getfield 15, 3) := by decide +kernel
theorem dX4_winnerAt_12 : decode cX4_winnerAt 12 = .ok (.iload_n 1, 1) := by decide +kernel
theorem dX4_winnerAt_13 : decode cX4_winnerAt 13 = .ok (.iaload, 1) := by decide +kernel
theorem dX4_winnerAt_14 : decode cX4_winnerAt 14 = .ok (.goto 4, 3) := by decide +kernel
theorem dX4_winnerAt_17 : decode cX4_winnerAt 17 = .ok (.iconst (-1), 1) := by decide +kernel
theorem dX4_winnerAt_18 : decode cX4_winnerAt 18 = .ok (.ireturn, 1) := by decide +kernel
theorem dX4_boutAt_0 : decode cX4_boutAt 0 = .ok (.iload_n 1, 1) := by decide +kernel
theorem dX4_boutAt_1 : decode cX4_boutAt 1 = .ok (.iconst 1, 1) := by decide +kernel
theorem dX4_boutAt_2 : decode cX4_boutAt 2 = .ok (.if_icmp .lt 26, 3) := by decide +kernel
theorem dX4_boutAt_5 : decode cX4_boutAt 5 = .ok (.iload_n 1, 1) := by decide +kernel
theorem dX4_boutAt_6 : decode cX4_boutAt 6 = .ok (.aload_n 0, 1) := by decide +kernel
theorem dX4_boutAt_7 : decode cX4_boutAt 7 = .ok (.getfield 24, 3) := by decide +kernel
theorem dX4_boutAt_10 : decode cX4_boutAt 10 = .ok (.if_icmp .ge 18, 3) := by decide +kernel
theorem dX4_boutAt_13 : decode cX4_boutAt 13 = .ok (.iload_n 1, 1) := by decide +kernel
theorem dX4_boutAt_14 : decode cX4_boutAt 14 = .ok (.bipush 16, 2) := by decide +kernel
theorem dX4_boutAt_16 : decode cX4_boutAt 16 = .ok (.if_icmp .ge 12, 3) := by decide +kernel
theorem dX4_boutAt_19 : decode cX4_boutAt 19 = .ok (.aload_n 0, 1) := by decide +kernel
theorem dX4_boutAt_20 : decode cX4_boutAt 20 = .ok (.getfield 20, 3) := by decide +kernel
theorem dX4_boutAt_23 : decode cX4_boutAt 23 = .ok (.iload_n 1, 1) := by decide +kernel
theorem dX4_boutAt_24 : decode cX4_boutAt 24 = .ok (.aaload, 1) := by decide +kernel
theorem dX4_boutAt_25 : decode cX4_boutAt 25 = .ok (.goto 4, 3) := by decide +kernel
theorem dX4_boutAt_28 : decode cX4_boutAt 28 = .ok (.aconst_null, 1) := by decide +kernel
theorem dX4_boutAt_29 : decode cX4_boutAt 29 = .ok (.areturn, 1) := by decide +kernel
theorem dX4_lay_0 : decode cX4_lay 0 = .ok (.iconst 2, 1) := by decide +kernel
theorem dX4_lay_1 : decode cX4_lay 1 = .ok (.istore_n 2, 1) := by decide +kernel
theorem dX4_lay_2 : decode cX4_lay 2 = .ok (.iload_n 2, 1) := by decide +kernel
theorem dX4_lay_3 : decode cX4_lay 3 = .ok (.iload_n 1, 1) := by decide +kernel
theorem dX4_lay_4 : decode cX4_lay 4 = .ok (.if_icmp .ge 16, 3) := by decide +kernel
theorem dX4_lay_7 : decode cX4_lay 7 = .ok (.iload_n 2, 1) := by decide +kernel
theorem dX4_lay_8 : decode cX4_lay 8 = .ok (.bipush 16, 2) := by decide +kernel
theorem dX4_lay_10 : decode cX4_lay 10 = .ok (.if_icmp .ge 10, 3) := by decide +kernel
theorem dX4_lay_13 : decode cX4_lay 13 = .ok (.iload_n 2, 1) := by decide +kernel
theorem dX4_lay_14 : decode cX4_lay 14 = .ok (.iconst 2, 1) := by decide +kernel
theorem dX4_lay_15 : decode cX4_lay 15 = .ok (.imul, 1) := by decide +kernel
theorem dX4_lay_16 : decode cX4_lay 16 = .ok (.istore_n 2, 1) := by decide +kernel
theorem dX4_lay_17 : decode cX4_lay 17 = .ok (.goto (-15), 3) := by decide +kernel
theorem dX4_lay_20 : decode cX4_lay 20 = .ok (.aload_n 0, 1) := by decide +kernel
theorem dX4_lay_21 : decode cX4_lay 21 = .ok (.iload_n 2, 1) := by decide +kernel
theorem dX4_lay_22 : decode cX4_lay 22 = .ok (.putfield 24, 3) := by decide +kernel
theorem dX4_lay_25 : decode cX4_lay 25 = .ok (.iconst 0, 1) := by decide +kernel
theorem dX4_lay_26 : decode cX4_lay 26 = .ok (.istore_n 3, 1) := by decide +kernel
theorem dX4_lay_27 : decode cX4_lay 27 = .ok (.iload_n 3, 1) := by decide +kernel
theorem dX4_lay_28 : decode cX4_lay 28 = .ok (.bipush 32, 2) := by decide +kernel
theorem dX4_lay_30 : decode cX4_lay 30 = .ok (.if_icmp .ge 16, 3) := by decide +kernel
theorem dX4_lay_33 : decode cX4_lay 33 = .ok (.aload_n 0, 1) := by decide +kernel
theorem dX4_lay_34 : decode cX4_lay 34 = .ok (.getfield 15, 3) := by decide +kernel
theorem dX4_lay_37 : decode cX4_lay 37 = .ok (.iload_n 3, 1) := by decide +kernel
theorem dX4_lay_38 : decode cX4_lay 38 = .ok (.iconst (-1), 1) := by decide +kernel
theorem dX4_lay_39 : decode cX4_lay 39 = .ok (.iastore, 1) := by decide +kernel
theorem dX4_lay_40 : decode cX4_lay 40 = .ok (.iinc 3 1, 3) := by decide +kernel
theorem dX4_lay_43 : decode cX4_lay 43 = .ok (.goto (-16), 3) := by decide +kernel
theorem dX4_lay_46 : decode cX4_lay 46 = .ok (.iconst 1, 1) := by decide +kernel
theorem dX4_lay_47 : decode cX4_lay 47 = .ok (.istore_n 3, 1) := by decide +kernel
theorem dX4_lay_48 : decode cX4_lay 48 = .ok (.iload_n 3, 1) := by decide +kernel
theorem dX4_lay_49 : decode cX4_lay 49 = .ok (.aload_n 0, 1) := by decide +kernel
theorem dX4_lay_50 : decode cX4_lay 50 = .ok (.getfield 24, 3) := by decide +kernel
theorem dX4_lay_53 : decode cX4_lay 53 = .ok (.if_icmp .ge 31, 3) := by decide +kernel
theorem dX4_lay_56 : decode cX4_lay 56 = .ok (.iload_n 3, 1) := by decide +kernel
theorem dX4_lay_57 : decode cX4_lay 57 = .ok (.bipush 16, 2) := by decide +kernel
theorem dX4_lay_59 : decode cX4_lay 59 = .ok (.if_icmp .ge 25, 3) := by decide +kernel
theorem dX4_lay_62 : decode cX4_lay 62 = .ok (.aload_n 0, 1) := by decide +kernel
theorem dX4_lay_63 : decode cX4_lay 63 = .ok (.getfield 20, 3) := by decide +kernel
theorem dX4_lay_66 : decode cX4_lay 66 = .ok (.iload_n 3, 1) := by decide +kernel
theorem dX4_lay_67 : decode cX4_lay 67 = .ok (.new 18, 3) := by decide +kernel
theorem dX4_lay_70 : decode cX4_lay 70 = .ok (.dup, 1) := by decide +kernel
theorem dX4_lay_71 : decode cX4_lay 71 = .ok (.iconst 0, 1) := by decide +kernel
theorem dX4_lay_72 : decode cX4_lay 72 = .ok (.iconst (-1), 1) := by decide +kernel
theorem dX4_lay_73 : decode cX4_lay 73 = .ok (.iconst (-1), 1) := by decide +kernel
theorem dX4_lay_74 : decode cX4_lay 74 = .ok (.invokespecial 32, 3) := by decide +kernel
theorem dX4_lay_77 : decode cX4_lay 77 = .ok (.aastore, 1) := by decide +kernel
theorem dX4_lay_78 : decode cX4_lay 78 = .ok (.iinc 3 1, 3) := by decide +kernel
theorem dX4_lay_81 : decode cX4_lay 81 = .ok (.goto (-33), 3) := by decide +kernel
theorem dX4_lay_84 : decode cX4_lay 84 = .ok (.aload_n 0, 1) := by decide +kernel
theorem dX4_lay_85 : decode cX4_lay 85 = .ok (.invokevirtual 35, 3) := by decide +kernel
theorem dX4_lay_88 : decode cX4_lay 88 = .ok (.return_, 1) := by decide +kernel
theorem dX4_laySeeds_0 : decode cX4_laySeeds 0 = .ok (.aload_n 0, 1) := by decide +kernel
theorem dX4_laySeeds_1 : decode cX4_laySeeds 1 = .ok (.getfield 9, 3) := by decide +kernel
theorem dX4_laySeeds_4 : decode cX4_laySeeds 4 = .ok (.iconst 0, 1) := by decide +kernel
theorem dX4_laySeeds_5 : decode cX4_laySeeds 5 = .ok (.iconst 1, 1) := by decide +kernel
theorem dX4_laySeeds_6 : decode cX4_laySeeds 6 = .ok (.iastore, 1) := by decide +kernel
theorem dX4_laySeeds_7 : decode cX4_laySeeds 7 = .ok (.aload_n 0, 1) := by decide +kernel
theorem dX4_laySeeds_8 : decode cX4_laySeeds 8 = .ok (.getfield 9, 3) := by decide +kernel
theorem dX4_laySeeds_11 : decode cX4_laySeeds 11 = .ok (.iconst 1, 1) := by decide +kernel
theorem dX4_laySeeds_12 : decode cX4_laySeeds 12 = .ok (.iconst 2, 1) := by decide +kernel
theorem dX4_laySeeds_13 : decode cX4_laySeeds 13 = .ok (.iastore, 1) := by decide +kernel
theorem dX4_laySeeds_14 : decode cX4_laySeeds 14 = .ok (.iconst 2, 1) := by decide +kernel
theorem dX4_laySeeds_15 : decode cX4_laySeeds 15 = .ok (.istore_n 1, 1) := by decide +kernel
theorem dX4_laySeeds_16 : decode cX4_laySeeds 16 = .ok (.iload_n 1, 1) := by decide +kernel
theorem dX4_laySeeds_17 : decode cX4_laySeeds 17 = .ok (.aload_n 0, 1) := by decide +kernel
theorem dX4_laySeeds_18 : decode cX4_laySeeds 18 = .ok (.getfield 24, 3) := by decide +kernel
theorem dX4_laySeeds_21 : decode cX4_laySeeds 21 = .ok (.if_icmp .ge 65, 3) := by decide +kernel
theorem dX4_laySeeds_24 : decode cX4_laySeeds 24 = .ok (.iconst 2, 1) := by decide +kernel
theorem dX4_laySeeds_25 : decode cX4_laySeeds 25 = .ok (.iload_n 1, 1) := by decide +kernel
theorem dX4_laySeeds_26 : decode cX4_laySeeds 26 = .ok (.imul, 1) := by decide +kernel
theorem dX4_laySeeds_27 : decode cX4_laySeeds 27 = .ok (.bipush 16, 2) := by decide +kernel
theorem dX4_laySeeds_29 : decode cX4_laySeeds 29 = .ok (.if_icmp .gt 57, 3) := by decide +kernel
theorem dX4_laySeeds_32 : decode cX4_laySeeds 32 = .ok (.iload_n 1, 1) := by decide +kernel
theorem dX4_laySeeds_33 : decode cX4_laySeeds 33 = .ok (.iconst 1, 1) := by decide +kernel
theorem dX4_laySeeds_34 : decode cX4_laySeeds 34 = .ok (.isub, 1) := by decide +kernel
theorem dX4_laySeeds_35 : decode cX4_laySeeds 35 = .ok (.istore_n 2, 1) := by decide +kernel
theorem dX4_laySeeds_36 : decode cX4_laySeeds 36 = .ok (.iload_n 2, 1) := by decide +kernel
theorem dX4_laySeeds_37 : decode cX4_laySeeds 37 = .ok (.ifCond .lt 42, 3) := by decide +kernel
theorem dX4_laySeeds_40 : decode cX4_laySeeds 40 = .ok (.aload_n 0, 1) := by decide +kernel
theorem dX4_laySeeds_41 : decode cX4_laySeeds 41 = .ok (.getfield 9, 3) := by decide +kernel
theorem dX4_laySeeds_44 : decode cX4_laySeeds 44 = .ok (.iload_n 2, 1) := by decide +kernel
theorem dX4_laySeeds_45 : decode cX4_laySeeds 45 = .ok (.iaload, 1) := by decide +kernel
theorem dX4_laySeeds_46 : decode cX4_laySeeds 46 = .ok (.istore_n 3, 1) := by decide +kernel
theorem dX4_laySeeds_47 : decode cX4_laySeeds 47 = .ok (.aload_n 0, 1) := by decide +kernel
theorem dX4_laySeeds_48 : decode cX4_laySeeds 48 = .ok (.getfield 9, 3) := by decide +kernel
theorem dX4_laySeeds_51 : decode cX4_laySeeds 51 = .ok (.iconst 2, 1) := by decide +kernel
theorem dX4_laySeeds_52 : decode cX4_laySeeds 52 = .ok (.iload_n 2, 1) := by decide +kernel
theorem dX4_laySeeds_53 : decode cX4_laySeeds 53 = .ok (.imul, 1) := by decide +kernel
theorem dX4_laySeeds_54 : decode cX4_laySeeds 54 = .ok (.iload_n 3, 1) := by decide +kernel
theorem dX4_laySeeds_55 : decode cX4_laySeeds 55 = .ok (.iastore, 1) := by decide +kernel
theorem dX4_laySeeds_56 : decode cX4_laySeeds 56 = .ok (.aload_n 0, 1) := by decide +kernel
theorem dX4_laySeeds_57 : decode cX4_laySeeds 57 = .ok (.getfield 9, 3) := by decide +kernel
theorem dX4_laySeeds_60 : decode cX4_laySeeds 60 = .ok (.iconst 2, 1) := by decide +kernel
theorem dX4_laySeeds_61 : decode cX4_laySeeds 61 = .ok (.iload_n 2, 1) := by decide +kernel
theorem dX4_laySeeds_62 : decode cX4_laySeeds 62 = .ok (.imul, 1) := by decide +kernel
theorem dX4_laySeeds_63 : decode cX4_laySeeds 63 = .ok (.iconst 1, 1) := by decide +kernel
theorem dX4_laySeeds_64 : decode cX4_laySeeds 64 = .ok (.iadd, 1) := by decide +kernel
theorem dX4_laySeeds_65 : decode cX4_laySeeds 65 = .ok (.iconst 2, 1) := by decide +kernel
theorem dX4_laySeeds_66 : decode cX4_laySeeds 66 = .ok (.iload_n 1, 1) := by decide +kernel
theorem dX4_laySeeds_67 : decode cX4_laySeeds 67 = .ok (.imul, 1) := by decide +kernel
theorem dX4_laySeeds_68 : decode cX4_laySeeds 68 = .ok (.iconst 1, 1) := by decide +kernel
theorem dX4_laySeeds_69 : decode cX4_laySeeds 69 = .ok (.iadd, 1) := by decide +kernel
theorem dX4_laySeeds_70 : decode cX4_laySeeds 70 = .ok (.iload_n 3, 1) := by decide +kernel
theorem dX4_laySeeds_71 : decode cX4_laySeeds 71 = .ok (.isub, 1) := by decide +kernel
theorem dX4_laySeeds_72 : decode cX4_laySeeds 72 = .ok (.iastore, 1) := by decide +kernel
theorem dX4_laySeeds_73 : decode cX4_laySeeds 73 = .ok (.iinc 2 (-1), 3) := by decide +kernel
theorem dX4_laySeeds_76 : decode cX4_laySeeds 76 = .ok (.goto (-40), 3) := by decide +kernel
theorem dX4_laySeeds_79 : decode cX4_laySeeds 79 = .ok (.iload_n 1, 1) := by decide +kernel
theorem dX4_laySeeds_80 : decode cX4_laySeeds 80 = .ok (.iconst 2, 1) := by decide +kernel
theorem dX4_laySeeds_81 : decode cX4_laySeeds 81 = .ok (.imul, 1) := by decide +kernel
theorem dX4_laySeeds_82 : decode cX4_laySeeds 82 = .ok (.istore_n 1, 1) := by decide +kernel
theorem dX4_laySeeds_83 : decode cX4_laySeeds 83 = .ok (.goto (-67), 3) := by decide +kernel
theorem dX4_laySeeds_86 : decode cX4_laySeeds 86 = .ok (.return_, 1) := by decide +kernel
theorem dX4_seat_0 : decode cX4_seat 0 = .ok (.iconst 0, 1) := by decide +kernel
theorem dX4_seat_1 : decode cX4_seat 1 = .ok (.istore_n 3, 1) := by decide +kernel
theorem dX4_seat_2 : decode cX4_seat 2 = .ok (.iload_n 3, 1) := by decide +kernel
theorem dX4_seat_3 : decode cX4_seat 3 = .ok (.aload_n 0, 1) := by decide +kernel
theorem dX4_seat_4 : decode cX4_seat 4 = .ok (.getfield 24, 3) := by decide +kernel
theorem dX4_seat_7 : decode cX4_seat 7 = .ok (.if_icmp .ge 37, 3) := by decide +kernel
theorem dX4_seat_10 : decode cX4_seat 10 = .ok (.iload_n 3, 1) := by decide +kernel
theorem dX4_seat_11 : decode cX4_seat 11 = .ok (.bipush 16, 2) := by decide +kernel
theorem dX4_seat_13 : decode cX4_seat 13 = .ok (.if_icmp .ge 31, 3) := by decide +kernel
theorem dX4_seat_16 : decode cX4_seat 16 = .ok (.aload_n 0, 1) := by decide +kernel
theorem dX4_seat_17 : decode cX4_seat 17 = .ok (.getfield 9, 3) := by decide +kernel
theorem dX4_seat_20 : decode cX4_seat 20 = .ok (.iload_n 3, 1) := by decide +kernel
theorem dX4_seat_21 : decode cX4_seat 21 = .ok (.iaload, 1) := by decide +kernel
theorem dX4_seat_22 : decode cX4_seat 22 = .ok (.iload_n 1, 1) := by decide +kernel
theorem dX4_seat_23 : decode cX4_seat 23 = .ok (.if_icmp .ne 15, 3) := by decide +kernel
theorem dX4_seat_26 : decode cX4_seat 26 = .ok (.aload_n 0, 1) := by decide +kernel
theorem dX4_seat_27 : decode cX4_seat 27 = .ok (.getfield 15, 3) := by decide +kernel
theorem dX4_seat_30 : decode cX4_seat 30 = .ok (.aload_n 0, 1) := by decide +kernel
theorem dX4_seat_31 : decode cX4_seat 31 = .ok (.getfield 24, 3) := by decide +kernel
theorem dX4_seat_34 : decode cX4_seat 34 = .ok (.iload_n 3, 1) := by decide +kernel
theorem dX4_seat_35 : decode cX4_seat 35 = .ok (.iadd, 1) := by decide +kernel
theorem dX4_seat_36 : decode cX4_seat 36 = .ok (.iload_n 2, 1) := by decide +kernel
theorem dX4_seat_37 : decode cX4_seat 37 = .ok (.iastore, 1) := by decide +kernel
theorem dX4_seat_38 : decode cX4_seat 38 = .ok (.iinc 3 1, 3) := by decide +kernel
theorem dX4_seat_41 : decode cX4_seat 41 = .ok (.goto (-39), 3) := by decide +kernel
theorem dX4_seat_44 : decode cX4_seat 44 = .ok (.return_, 1) := by decide +kernel
theorem dX4_recount_0 : decode cX4_recount 0 = .ok (.iconst 1, 1) := by decide +kernel
theorem dX4_recount_1 : decode cX4_recount 1 = .ok (.istore_n 1, 1) := by decide +kernel
theorem dX4_recount_2 : decode cX4_recount 2 = .ok (.iload_n 1, 1) := by decide +kernel
theorem dX4_recount_3 : decode cX4_recount 3 = .ok (.aload_n 0, 1) := by decide +kernel
theorem dX4_recount_4 : decode cX4_recount 4 = .ok (.getfield 24, 3) := by decide +kernel
theorem dX4_recount_7 : decode cX4_recount 7 = .ok (.if_icmp .ge 23, 3) := by decide +kernel
theorem dX4_recount_10 : decode cX4_recount 10 = .ok (.aload_n 0, 1) := by decide +kernel
theorem dX4_recount_11 : decode cX4_recount 11 = .ok (.iload_n 1, 1) := by decide +kernel
theorem dX4_recount_12 : decode cX4_recount 12 = .ok (.invokevirtual 38, 3) := by decide +kernel
theorem dX4_recount_15 : decode cX4_recount 15 = .ok (.astore_n 2, 1) := by decide +kernel
theorem dX4_recount_16 : decode cX4_recount 16 = .ok (.aload_n 2, 1) := by decide +kernel
theorem dX4_recount_17 : decode cX4_recount 17 = .ok (.ifnull 7, 3) := by decide +kernel
theorem dX4_recount_20 : decode cX4_recount 20 = .ok (.aload_n 2, 1) := by decide +kernel
theorem dX4_recount_21 : decode cX4_recount 21 = .ok (.invokevirtual 42, 3) := by decide +kernel
theorem dX4_recount_24 : decode cX4_recount 24 = .ok (.iinc 1 1, 3) := by decide +kernel
theorem dX4_recount_27 : decode cX4_recount 27 = .ok (.goto (-25), 3) := by decide +kernel
theorem dX4_recount_30 : decode cX4_recount 30 = .ok (.return_, 1) := by decide +kernel
theorem dX4_settle_0 : decode cX4_settle 0 = .ok (.aload_n 0, 1) := by decide +kernel
theorem dX4_settle_1 : decode cX4_settle 1 = .ok (.getfield 24, 3) := by decide +kernel
theorem dX4_settle_4 : decode cX4_settle 4 = .ok (.iconst 1, 1) := by decide +kernel
theorem dX4_settle_5 : decode cX4_settle 5 = .ok (.isub, 1) := by decide +kernel
theorem dX4_settle_6 : decode cX4_settle 6 = .ok (.istore_n 2, 1) := by decide +kernel
theorem dX4_settle_7 : decode cX4_settle 7 = .ok (.iload_n 2, 1) := by decide +kernel
theorem dX4_settle_8 : decode cX4_settle 8 = .ok (.iconst 1, 1) := by decide +kernel
theorem dX4_settle_9 : decode cX4_settle 9 = .ok (.if_icmp .lt 100, 3) := by decide +kernel
theorem dX4_settle_12 : decode cX4_settle 12 = .ok (.aload_n 0, 1) := by decide +kernel
theorem dX4_settle_13 : decode cX4_settle 13 = .ok (.iload_n 2, 1) := by decide +kernel
theorem dX4_settle_14 : decode cX4_settle 14 = .ok (.invokevirtual 38, 3) := by decide +kernel
theorem dX4_settle_17 : decode cX4_settle 17 = .ok (.astore_n 3, 1) := by decide +kernel
theorem dX4_settle_18 : decode cX4_settle 18 = .ok (.aload_n 3, 1) := by decide +kernel
theorem dX4_settle_19 : decode cX4_settle 19 = .ok (.ifnull 84, 3) := by decide +kernel
theorem dX4_settle_22 : decode cX4_settle 22 = .ok (.aload_n 0, 1) := by decide +kernel
theorem dX4_settle_23 : decode cX4_settle 23 = .ok (.iload_n 2, 1) := by decide +kernel
theorem dX4_settle_24 : decode cX4_settle 24 = .ok (.invokevirtual 28, 3) := by decide +kernel
theorem dX4_settle_27 : decode cX4_settle 27 = .ok (.ifCond .eq 76, 3) := by decide +kernel
theorem dX4_settle_30 : decode cX4_settle 30 = .ok (.aload_n 3, 1) := by decide +kernel
theorem dX4_settle_31 : decode cX4_settle 31 = .ok (.aload_n 0, 1) := by decide +kernel
theorem dX4_settle_32 : decode cX4_settle 32 = .ok (.iconst 2, 1) := by decide +kernel
theorem dX4_settle_33 : decode cX4_settle 33 = .ok (.iload_n 2, 1) := by decide +kernel
theorem dX4_settle_34 : decode cX4_settle 34 = .ok (.imul, 1) := by decide +kernel
theorem dX4_settle_35 : decode cX4_settle 35 = .ok (.invokevirtual 45, 3) := by decide +kernel
theorem dX4_settle_38 : decode cX4_settle 38 = .ok (.putfield 49, 3) := by decide +kernel
theorem dX4_settle_41 : decode cX4_settle 41 = .ok (.aload_n 3, 1) := by decide +kernel
theorem dX4_settle_42 : decode cX4_settle 42 = .ok (.aload_n 0, 1) := by decide +kernel
theorem dX4_settle_43 : decode cX4_settle 43 = .ok (.iconst 2, 1) := by decide +kernel
theorem dX4_settle_44 : decode cX4_settle 44 = .ok (.iload_n 2, 1) := by decide +kernel
theorem dX4_settle_45 : decode cX4_settle 45 = .ok (.imul, 1) := by decide +kernel
theorem dX4_settle_46 : decode cX4_settle 46 = .ok (.iconst 1, 1) := by decide +kernel
theorem dX4_settle_47 : decode cX4_settle 47 = .ok (.iadd, 1) := by decide +kernel
theorem dX4_settle_48 : decode cX4_settle 48 = .ok (.invokevirtual 45, 3) := by decide +kernel
theorem dX4_settle_51 : decode cX4_settle 51 = .ok (.putfield 52, 3) := by decide +kernel
theorem dX4_settle_54 : decode cX4_settle 54 = .ok (.aload_n 0, 1) := by decide +kernel
theorem dX4_settle_55 : decode cX4_settle 55 = .ok (.getfield 15, 3) := by decide +kernel
theorem dX4_settle_58 : decode cX4_settle 58 = .ok (.iload_n 2, 1) := by decide +kernel
theorem dX4_settle_59 : decode cX4_settle 59 = .ok (.iaload, 1) := by decide +kernel
theorem dX4_settle_60 : decode cX4_settle 60 = .ok (.istore 4, 2) := by decide +kernel
theorem dX4_settle_62 : decode cX4_settle 62 = .ok (.aload_n 0, 1) := by decide +kernel
theorem dX4_settle_63 : decode cX4_settle 63 = .ok (.getfield 15, 3) := by decide +kernel
theorem dX4_settle_66 : decode cX4_settle 66 = .ok (.iload_n 2, 1) := by decide +kernel
theorem dX4_settle_67 : decode cX4_settle 67 = .ok (.aload_n 0, 1) := by decide +kernel
theorem dX4_settle_68 : decode cX4_settle 68 = .ok (.iload_n 2, 1) := by decide +kernel
theorem dX4_settle_69 : decode cX4_settle 69 = .ok (.aload_n 3, 1) := by decide +kernel
theorem dX4_settle_70 : decode cX4_settle 70 = .ok (.invokevirtual 55, 3) := by decide +kernel
theorem dX4_settle_73 : decode cX4_settle 73 = .ok (.iastore, 1) := by decide +kernel
theorem dX4_settle_74 : decode cX4_settle 74 = .ok (.iload 4, 2) := by decide +kernel
theorem dX4_settle_76 : decode cX4_settle 76 = .ok (.iconst (-1), 1) := by decide +kernel
theorem dX4_settle_77 : decode cX4_settle 77 = .ok (.if_icmp .eq 26, 3) := by decide +kernel
theorem dX4_settle_80 : decode cX4_settle 80 = .ok (.iload 4, 2) := by decide +kernel
theorem dX4_settle_82 : decode cX4_settle 82 = .ok (.aload_n 0, 1) := by decide +kernel
theorem dX4_settle_83 : decode cX4_settle 83 = .ok (.getfield 15, 3) := by decide +kernel
theorem dX4_settle_86 : decode cX4_settle 86 = .ok (.iload_n 2, 1) := by decide +kernel
theorem dX4_settle_87 : decode cX4_settle 87 = .ok (.iaload, 1) := by decide +kernel
theorem dX4_settle_88 : decode cX4_settle 88 = .ok (.if_icmp .eq 15, 3) := by decide +kernel
theorem dX4_settle_91 : decode cX4_settle 91 = .ok (.aload_n 0, 1) := by decide +kernel
theorem dX4_settle_92 : decode cX4_settle 92 = .ok (.aload_n 0, 1) := by decide +kernel
theorem dX4_settle_93 : decode cX4_settle 93 = .ok (.iload_n 2, 1) := by decide +kernel
theorem dX4_settle_94 : decode cX4_settle 94 = .ok (.iconst 2, 1) := by decide +kernel
theorem dX4_settle_95 : decode cX4_settle 95 = .ok (.idiv, 1) := by decide +kernel
theorem dX4_settle_96 : decode cX4_settle 96 = .ok (.invokevirtual 38, 3) := by decide +kernel
theorem dX4_settle_99 : decode cX4_settle 99 = .ok (.aload_n 1, 1) := by decide +kernel
theorem dX4_settle_100 : decode cX4_settle 100 = .ok (.invokevirtual 59, 3) := by decide +kernel
theorem dX4_settle_103 : decode cX4_settle 103 = .ok (.iinc 2 (-1), 3) := by decide +kernel
theorem dX4_settle_106 : decode cX4_settle 106 = .ok (.goto (-99), 3) := by decide +kernel
theorem dX4_settle_109 : decode cX4_settle 109 = .ok (.return_, 1) := by decide +kernel
theorem dX4_winnerNow_0 : decode cX4_winnerNow 0 = .ok (.iconst 2, 1) := by decide +kernel
theorem dX4_winnerNow_1 : decode cX4_winnerNow 1 = .ok (.iload_n 1, 1) := by decide +kernel
theorem dX4_winnerNow_2 : decode cX4_winnerNow 2 = .ok (.imul, 1) := by decide +kernel
theorem dX4_winnerNow_3 : decode cX4_winnerNow 3 = .ok (.aload_n 0, 1) := by decide +kernel
theorem dX4_winnerNow_4 : decode cX4_winnerNow 4 = .ok (.getfield 24, 3) := by decide +kernel
theorem dX4_winnerNow_7 : decode cX4_winnerNow 7 = .ok (.if_icmp .lt 7, 3) := by decide +kernel
theorem dX4_winnerNow_10 : decode cX4_winnerNow 10 = .ok (.iconst 1, 1) := by decide +kernel
theorem dX4_winnerNow_11 : decode cX4_winnerNow 11 = .ok (.goto 4, 3) := by decide +kernel
theorem dX4_winnerNow_14 : decode cX4_winnerNow 14 = .ok (.iconst 0, 1) := by decide +kernel
theorem dX4_winnerNow_15 : decode cX4_winnerNow 15 = .ok (.istore_n 3, 1) := by decide +kernel
theorem dX4_winnerNow_16 : decode cX4_winnerNow 16 = .ok (.iload_n 3, 1) := by decide +kernel
theorem dX4_winnerNow_17 : decode cX4_winnerNow 17 = .ok (.ifCond .eq 16, 3) := by decide +kernel
theorem dX4_winnerNow_20 : decode cX4_winnerNow 20 = .ok (.aload_n 2, 1) := by decide +kernel
theorem dX4_winnerNow_21 : decode cX4_winnerNow 21 = .ok (.getfield 49, 3) := by decide +kernel
theorem dX4_winnerNow_24 : decode cX4_winnerNow 24 = .ok (.iconst (-1), 1) := by decide +kernel
theorem dX4_winnerNow_25 : decode cX4_winnerNow 25 = .ok (.if_icmp .ne 8, 3) := by decide +kernel
theorem dX4_winnerNow_28 : decode cX4_winnerNow 28 = .ok (.aload_n 2, 1) := by decide +kernel
theorem dX4_winnerNow_29 : decode cX4_winnerNow 29 = .ok (.getfield 52, 3) := by decide +kernel
theorem dX4_winnerNow_32 : decode cX4_winnerNow 32 = .ok (.ireturn, 1) := by decide +kernel
theorem dX4_winnerNow_33 : decode cX4_winnerNow 33 = .ok (.iload_n 3, 1) := by decide +kernel
theorem dX4_winnerNow_34 : decode cX4_winnerNow 34 = .ok (.ifCond .eq 16, 3) := by decide +kernel
theorem dX4_winnerNow_37 : decode cX4_winnerNow 37 = .ok (.aload_n 2, 1) := by decide +kernel
theorem dX4_winnerNow_38 : decode cX4_winnerNow 38 = .ok (.getfield 52, 3) := by decide +kernel
theorem dX4_winnerNow_41 : decode cX4_winnerNow 41 = .ok (.iconst (-1), 1) := by decide +kernel
theorem dX4_winnerNow_42 : decode cX4_winnerNow 42 = .ok (.if_icmp .ne 8, 3) := by decide +kernel
theorem dX4_winnerNow_45 : decode cX4_winnerNow 45 = .ok (.aload_n 2, 1) := by decide +kernel
theorem dX4_winnerNow_46 : decode cX4_winnerNow 46 = .ok (.getfield 49, 3) := by decide +kernel
theorem dX4_winnerNow_49 : decode cX4_winnerNow 49 = .ok (.ireturn, 1) := by decide +kernel
theorem dX4_winnerNow_50 : decode cX4_winnerNow 50 = .ok (.aload_n 2, 1) := by decide +kernel
theorem dX4_winnerNow_51 : decode cX4_winnerNow 51 = .ok (.invokevirtual 63, 3) := by decide +kernel
theorem dX4_winnerNow_54 : decode cX4_winnerNow 54 = .ok (.ireturn, 1) := by decide +kernel
theorem dX4_drop_0 : decode cX4_drop 0 = .ok (.aload_n 1, 1) := by decide +kernel
theorem dX4_drop_1 : decode cX4_drop 1 = .ok (.ifnonnull 4, 3) := by decide +kernel
theorem dX4_drop_4 : decode cX4_drop 4 = .ok (.return_, 1) := by decide +kernel
theorem dX4_drop_5 : decode cX4_drop 5 = .ok (.aload_n 1, 1) := by decide +kernel
theorem dX4_drop_6 : decode cX4_drop 6 = .ok (.getfield 67, 3) := by decide +kernel
theorem dX4_drop_9 : decode cX4_drop 9 = .ok (.ifCond .le 13, 3) := by decide +kernel
theorem dX4_drop_12 : decode cX4_drop 12 = .ok (.aload_n 0, 1) := by decide +kernel
theorem dX4_drop_13 : decode cX4_drop 13 = .ok (.dup, 1) := by decide +kernel
theorem dX4_drop_14 : decode cX4_drop 14 = .ok (.getfield 70, 3) := by decide +kernel
theorem dX4_drop_17 : decode cX4_drop 17 = .ok (.iconst 1, 1) := by decide +kernel
theorem dX4_drop_18 : decode cX4_drop 18 = .ok (.iadd, 1) := by decide +kernel
theorem dX4_drop_19 : decode cX4_drop 19 = .ok (.putfield 70, 3) := by decide +kernel
theorem dX4_drop_22 : decode cX4_drop 22 = .ok (.aload_n 1, 1) := by decide +kernel
theorem dX4_drop_23 : decode cX4_drop 23 = .ok (.invokevirtual 73, 3) := by decide +kernel
theorem dX4_drop_26 : decode cX4_drop 26 = .ok (.aload_n 2, 1) := by decide +kernel
theorem dX4_drop_27 : decode cX4_drop 27 = .ok (.getfield 76, 3) := by decide +kernel
theorem dX4_drop_30 : decode cX4_drop 30 = .ok (.aload_n 1, 1) := by decide +kernel
theorem dX4_drop_31 : decode cX4_drop 31 = .ok (.if_acmp .ne 7, 3) := by decide +kernel
theorem dX4_drop_34 : decode cX4_drop 34 = .ok (.aload_n 2, 1) := by decide +kernel
theorem dX4_drop_35 : decode cX4_drop 35 = .ok (.invokevirtual 82, 3) := by decide +kernel
theorem dX4_drop_38 : decode cX4_drop 38 = .ok (.return_, 1) := by decide +kernel
theorem dX5_init_0 : decode cX5_init 0 = .ok (.aload_n 0, 1) := by decide +kernel
theorem dX5_init_1 : decode cX5_init 1 = .ok (.invokespecial 3, 3) := by decide +kernel
theorem dX5_init_4 : decode cX5_init 4 = .ok (.return_, 1) := by decide +kernel
theorem dX5_restart_0 : decode cX5_restart 0 = .ok (.aload_n 0, 1) := by decide +kernel
theorem dX5_restart_1 : decode cX5_restart 1 = .ok (.iload_n 1, 1) := by decide +kernel
theorem dX5_restart_2 : decode cX5_restart 2 = .ok (.putfield 9, 3) := by decide +kernel
theorem dX5_restart_5 : decode cX5_restart 5 = .ok (.aload_n 0, 1) := by decide +kernel
theorem dX5_restart_6 : decode cX5_restart 6 = .ok (.iconst 0, 1) := by decide +kernel
theorem dX5_restart_7 : decode cX5_restart 7 = .ok (.putfield 15, 3) := by decide +kernel
theorem dX5_restart_10 : decode cX5_restart 10 = .ok (.aload_n 0, 1) := by decide +kernel
theorem dX5_restart_11 : decode cX5_restart 11 = .ok (.iconst 0, 1) := by decide +kernel
theorem dX5_restart_12 : decode cX5_restart 12 = .ok (.putfield 18, 3) := by decide +kernel
theorem dX5_restart_15 : decode cX5_restart 15 = .ok (.return_, 1) := by decide +kernel
theorem dX5_isAtGoal_0 : decode cX5_isAtGoal 0 = .ok (.aload_n 0, 1) := by decide +kernel
theorem dX5_isAtGoal_1 : decode cX5_isAtGoal 1 = .ok (.getfield 15, 3) := by decide +kernel
theorem dX5_isAtGoal_4 : decode cX5_isAtGoal 4 = .ok (.aload_n 0, 1) := by decide +kernel
theorem dX5_isAtGoal_5 : decode cX5_isAtGoal 5 = .ok (.getfield 9, 3) := by decide +kernel
theorem dX5_isAtGoal_8 : decode cX5_isAtGoal 8 = .ok (.if_icmp .ge 14, 3) := by decide +kernel
theorem dX5_isAtGoal_11 : decode cX5_isAtGoal 11 = .ok (.aload_n 0, 1) := by decide +kernel
theorem dX5_isAtGoal_12 : decode cX5_isAtGoal 12 = .ok (.getfield 18, 3) := by decide +kernel
theorem dX5_isAtGoal_15 : decode cX5_isAtGoal 15 = .ok (.aload_n 0, 1) := by decide +kernel
theorem dX5_isAtGoal_16 : decode cX5_isAtGoal 16 = .ok (.getfield 9, 3) := by decide +kernel
theorem dX5_isAtGoal_19 : decode cX5_isAtGoal 19 = .ok (.if_icmp .lt 7, 3) := by decide +kernel
theorem dX5_isAtGoal_22 : decode cX5_isAtGoal 22 = .ok (.iconst 1, 1) := by decide +kernel
theorem dX5_isAtGoal_23 : decode cX5_isAtGoal 23 = .ok (.goto 4, 3) := by decide +kernel
theorem dX5_isAtGoal_26 : decode cX5_isAtGoal 26 = .ok (.iconst 0, 1) := by decide +kernel
theorem dX5_isAtGoal_27 : decode cX5_isAtGoal 27 = .ok (.ireturn, 1) := by decide +kernel
theorem dX5_add_0 : decode cX5_add 0 = .ok (.aload_n 0, 1) := by decide +kernel
theorem dX5_add_1 : decode cX5_add 1 = .ok (.invokevirtual 21, 3) := by decide +kernel
theorem dX5_add_4 : decode cX5_add 4 = .ok (.ifCond .eq 4, 3) := by decide +kernel
theorem dX5_add_7 : decode cX5_add 7 = .ok (.return_, 1) := by decide +kernel
theorem dX5_add_8 : decode cX5_add 8 = .ok (.aload_n 0, 1) := by decide +kernel
theorem dX5_add_9 : decode cX5_add 9 = .ok (.getfield 15, 3) := by decide +kernel
theorem dX5_add_12 : decode cX5_add 12 = .ok (.iload_n 1, 1) := by decide +kernel
theorem dX5_add_13 : decode cX5_add 13 = .ok (.iconst 1, 1) := by decide +kernel
theorem dX5_add_14 : decode cX5_add 14 = .ok (.iand, 1) := by decide +kernel
theorem dX5_add_15 : decode cX5_add 15 = .ok (.ifCond .eq 7, 3) := by decide +kernel
theorem dX5_add_18 : decode cX5_add 18 = .ok (.iconst 1, 1) := by decide +kernel
theorem dX5_add_19 : decode cX5_add 19 = .ok (.goto 4, 3) := by decide +kernel
theorem dX5_add_22 : decode cX5_add 22 = .ok (.iconst 0, 1) := by decide +kernel
theorem dX5_add_23 : decode cX5_add 23 = .ok (.iadd, 1) := by decide +kernel
theorem dX5_add_24 : decode cX5_add 24 = .ok (.istore_n 2, 1) := by decide +kernel
theorem dX5_add_25 : decode cX5_add 25 = .ok (.aload_n 0, 1) := by decide +kernel
theorem dX5_add_26 : decode cX5_add 26 = .ok (.getfield 18, 3) := by decide +kernel
theorem dX5_add_29 : decode cX5_add 29 = .ok (.iload_n 1, 1) := by decide +kernel
theorem dX5_add_30 : decode cX5_add 30 = .ok (.iconst 2, 1) := by decide +kernel
theorem dX5_add_31 : decode cX5_add 31 = .ok (.iand, 1) := by decide +kernel
theorem dX5_add_32 : decode cX5_add 32 = .ok (.ifCond .eq 7, 3) := by decide +kernel
theorem dX5_add_35 : decode cX5_add 35 = .ok (.iconst 1, 1) := by decide +kernel
theorem dX5_add_36 : decode cX5_add 36 = .ok (.goto 4, 3) := by decide +kernel
theorem dX5_add_39 : decode cX5_add 39 = .ok (.iconst 0, 1) := by decide +kernel
theorem dX5_add_40 : decode cX5_add 40 = .ok (.iadd, 1) := by decide +kernel
theorem dX5_add_41 : decode cX5_add 41 = .ok (.istore_n 3, 1) := by decide +kernel
theorem dX5_add_42 : decode cX5_add 42 = .ok (.iload_n 2, 1) := by decide +kernel
theorem dX5_add_43 : decode cX5_add 43 = .ok (.aload_n 0, 1) := by decide +kernel
theorem dX5_add_44 : decode cX5_add 44 = .ok (.getfield 9, 3) := by decide +kernel
theorem dX5_add_47 : decode cX5_add 47 = .ok (.if_icmp .lt 12, 3) := by decide +kernel
theorem dX5_add_50 : decode cX5_add 50 = .ok (.iload_n 3, 1) := by decide +kernel
theorem dX5_add_51 : decode cX5_add 51 = .ok (.aload_n 0, 1) := by decide +kernel
theorem dX5_add_52 : decode cX5_add 52 = .ok (.getfield 9, 3) := by decide +kernel
theorem dX5_add_55 : decode cX5_add 55 = .ok (.if_icmp .lt 4, 3) := by decide +kernel
theorem dX5_add_58 : decode cX5_add 58 = .ok (.return_, 1) := by decide +kernel
theorem dX5_add_59 : decode cX5_add 59 = .ok (.aload_n 0, 1) := by decide +kernel
theorem dX5_add_60 : decode cX5_add 60 = .ok (.iload_n 2, 1) := by decide +kernel
theorem dX5_add_61 : decode cX5_add 61 = .ok (.putfield 15, 3) := by decide +kernel
theorem dX5_add_64 : decode cX5_add 64 = .ok (.aload_n 0, 1) := by decide +kernel
theorem dX5_add_65 : decode cX5_add 65 = .ok (.iload_n 3, 1) := by decide +kernel
theorem dX5_add_66 : decode cX5_add 66 = .ok (.putfield 18, 3) := by decide +kernel
theorem dX5_add_69 : decode cX5_add 69 = .ok (.return_, 1) := by decide +kernel
theorem dX5_of_0 : decode cX5_of 0 = .ok (.iload_n 1, 1) := by decide +kernel
theorem dX5_of_1 : decode cX5_of 1 = .ok (.ifCond .ne 10, 3) := by decide +kernel
theorem dX5_of_4 : decode cX5_of 4 = .ok (.aload_n 0, 1) := by decide +kernel
theorem dX5_of_5 : decode cX5_of 5 = .ok (.getfield 15, 3) := by decide +kernel
theorem dX5_of_8 : decode cX5_of 8 = .ok (.goto 7, 3) := by decide +kernel
theorem dX5_of_11 : decode cX5_of 11 = .ok (.aload_n 0, 1) := by decide +kernel
theorem dX5_of_12 : decode cX5_of 12 = .ok (.getfield 18, 3) := by decide +kernel
theorem dX5_of_15 : decode cX5_of 15 = .ok (.ireturn, 1) := by decide +kernel
theorem dX6_init_0 : decode cX6_init 0 = .ok (.aload_n 0, 1) := by decide +kernel
theorem dX6_init_1 : decode cX6_init 1 = .ok (.invokespecial 3, 3) := by decide +kernel
theorem dX6_init_4 : decode cX6_init 4 = .ok (.aload_n 0, 1) := by decide +kernel
theorem dX6_init_5 : decode cX6_init 5 = .ok (.iconst 0, 1) := by decide +kernel
theorem dX6_init_6 : decode cX6_init 6 = .ok (.putfield 9, 3) := by decide +kernel
theorem dX6_init_9 : decode cX6_init 9 = .ok (.aload_n 0, 1) := by decide +kernel
theorem dX6_init_10 : decode cX6_init 10 = .ok (.iload_n 1, 1) := by decide +kernel
theorem dX6_init_11 : decode cX6_init 11 = .ok (.putfield 15, 3) := by decide +kernel
theorem dX6_init_14 : decode cX6_init 14 = .ok (.aload_n 0, 1) := by decide +kernel
theorem dX6_init_15 : decode cX6_init 15 = .ok (.iload_n 2, 1) := by decide +kernel
theorem dX6_init_16 : decode cX6_init 16 = .ok (.putfield 18, 3) := by decide +kernel
theorem dX6_init_19 : decode cX6_init 19 = .ok (.return_, 1) := by decide +kernel
theorem dX6_isMarkedFor_0 : decode cX6_isMarkedFor 0 = .ok (.aload_n 0, 1) := by decide +kernel
theorem dX6_isMarkedFor_1 : decode cX6_isMarkedFor 1 = .ok (.getfield 9, 3) := by decide +kernel
theorem dX6_isMarkedFor_4 : decode cX6_isMarkedFor 4 = .ok (.iconst 1, 1) := by decide +kernel
theorem dX6_isMarkedFor_5 : decode cX6_isMarkedFor 5 = .ok (.if_icmp .ne 15, 3) := by decide +kernel
theorem dX6_isMarkedFor_8 : decode cX6_isMarkedFor 8 = .ok (.aload_n 0, 1) := by decide +kernel
theorem dX6_isMarkedFor_9 : decode cX6_isMarkedFor 9 = .ok (.getfield 18, 3) := by decide +kernel
theorem dX6_isMarkedFor_12 : decode cX6_isMarkedFor 12 = .ok (.iload_n 1, 1) := by decide +kernel
theorem dX6_isMarkedFor_13 : decode cX6_isMarkedFor 13 = .ok (.if_icmp .ne 7, 3) := by decide +kernel
theorem dX6_isMarkedFor_16 : decode cX6_isMarkedFor 16 = .ok (.iconst 1, 1) := by decide +kernel
theorem dX6_isMarkedFor_17 : decode cX6_isMarkedFor 17 = .ok (.goto 4, 3) := by decide +kernel
theorem dX6_isMarkedFor_20 : decode cX6_isMarkedFor 20 = .ok (.iconst 0, 1) := by decide +kernel
theorem dX6_isMarkedFor_21 : decode cX6_isMarkedFor 21 = .ok (.ireturn, 1) := by decide +kernel
theorem dX6_isFalse_0 : decode cX6_isFalse 0 = .ok (.iload_n 1, 1) := by decide +kernel
theorem dX6_isFalse_1 : decode cX6_isFalse 1 = .ok (.ifCond .eq 10, 3) := by decide +kernel
theorem dX6_isFalse_4 : decode cX6_isFalse 4 = .ok (.aload_n 0, 1) := by decide +kernel
theorem dX6_isFalse_5 : decode cX6_isFalse 5 = .ok (.getfield 21, 3) := by decide +kernel
theorem dX6_isFalse_8 : decode cX6_isFalse 8 = .ok (.goto 16, 3) := by decide +kernel
theorem dX6_isFalse_11 : decode cX6_isFalse 11 = .ok (.aload_n 0, 1) := by decide +kernel
theorem dX6_isFalse_12 : decode cX6_isFalse 12 = .ok (.getfield 9, 3) := by decide +kernel
theorem dX6_isFalse_15 : decode cX6_isFalse 15 = .ok (.iconst 2, 1) := by decide +kernel
theorem dX6_isFalse_16 : decode cX6_isFalse 16 = .ok (.if_icmp .ne 7, 3) := by decide +kernel
theorem dX6_isFalse_19 : decode cX6_isFalse 19 = .ok (.iconst 1, 1) := by decide +kernel
theorem dX6_isFalse_20 : decode cX6_isFalse 20 = .ok (.goto 4, 3) := by decide +kernel
theorem dX6_isFalse_23 : decode cX6_isFalse 23 = .ok (.iconst 0, 1) := by decide +kernel
theorem dX6_isFalse_24 : decode cX6_isFalse 24 = .ok (.ireturn, 1) := by decide +kernel
theorem dX7_init_0 : decode cX7_init 0 = .ok (.aload_n 0, 1) := by decide +kernel
theorem dX7_init_1 : decode cX7_init 1 = .ok (.invokespecial 3, 3) := by decide +kernel
theorem dX7_init_4 : decode cX7_init 4 = .ok (.aload_n 0, 1) := by decide +kernel
theorem dX7_init_5 : decode cX7_init 5 = .ok (.bipush 12, 2) := by decide +kernel
theorem dX7_init_7 : decode cX7_init 7 = .ok (.anewarray 9, 3) := by decide +kernel
theorem dX7_init_10 : decode cX7_init 10 = .ok (.putfield 11, 3) := by decide +kernel
theorem dX7_init_13 : decode cX7_init 13 = .ok (.aload_n 0, 1) := by decide +kernel
theorem dX7_init_14 : decode cX7_init 14 = .ok (.bipush 24, 2) := by decide +kernel
theorem dX7_init_16 : decode cX7_init 16 = .ok (.anewarray 15, 3) := by decide +kernel
theorem dX7_init_19 : decode cX7_init 19 = .ok (.putfield 17, 3) := by decide +kernel
theorem dX7_init_22 : decode cX7_init 22 = .ok (.aload_n 0, 1) := by decide +kernel
theorem dX7_init_23 : decode cX7_init 23 = .ok (.bipush 66, 2) := by decide +kernel
theorem dX7_init_25 : decode cX7_init 25 = .ok (.anewarray 21, 3) := by decide +kernel
theorem dX7_init_28 : decode cX7_init 28 = .ok (.putfield 23, 3) := by decide +kernel
theorem dX7_init_31 : decode cX7_init 31 = .ok (.aload_n 0, 1) := by decide +kernel
theorem dX7_init_32 : decode cX7_init 32 = .ok (.new 27, 3) := by decide +kernel
theorem dX7_init_35 : decode cX7_init 35 = .ok (.dup, 1) := by decide +kernel
theorem dX7_init_36 : decode cX7_init 36 = .ok (.invokespecial 29, 3) := by decide +kernel
theorem dX7_init_39 : decode cX7_init 39 = .ok (.putfield 30, 3) := by decide +kernel
theorem dX7_init_42 : decode cX7_init 42 = .ok (.aload_n 0, 1) := by decide +kernel
theorem dX7_init_43 : decode cX7_init 43 = .ok (.new 34, 3) := by decide +kernel
theorem dX7_init_46 : decode cX7_init 46 = .ok (.dup, 1) := by decide +kernel
theorem dX7_init_47 : decode cX7_init 47 = .ok (.invokespecial 36, 3) := by decide +kernel
theorem dX7_init_50 : decode cX7_init 50 = .ok (.putfield 37, 3) := by decide +kernel
theorem dX7_init_53 : decode cX7_init 53 = .ok (.aload_n 0, 1) := by decide +kernel
theorem dX7_init_54 : decode cX7_init 54 = .ok (.new 41, 3) := by decide +kernel
theorem dX7_init_57 : decode cX7_init 57 = .ok (.dup, 1) := by decide +kernel
theorem dX7_init_58 : decode cX7_init 58 = .ok (.invokespecial 43, 3) := by decide +kernel
theorem dX7_init_61 : decode cX7_init 61 = .ok (.putfield 44, 3) := by decide +kernel
theorem dX7_init_64 : decode cX7_init 64 = .ok (.aload_n 0, 1) := by decide +kernel
theorem dX7_init_65 : decode cX7_init 65 = .ok (.iload_n 1, 1) := by decide +kernel
theorem dX7_init_66 : decode cX7_init 66 = .ok (.ifCond .eq 7, 3) := by decide +kernel
theorem dX7_init_69 : decode cX7_init 69 = .ok (.iconst 1, 1) := by decide +kernel
theorem dX7_init_70 : decode cX7_init 70 = .ok (.goto 4, 3) := by decide +kernel
theorem dX7_init_73 : decode cX7_init 73 = .ok (.iconst 0, 1) := by decide +kernel
theorem dX7_init_74 : decode cX7_init 74 = .ok (.putfield 48, 3) := by decide +kernel
theorem dX7_init_77 : decode cX7_init 77 = .ok (.return_, 1) := by decide +kernel
theorem dX7_fencer_0 : decode cX7_fencer 0 = .ok (.aload_n 0, 1) := by decide +kernel
theorem dX7_fencer_1 : decode cX7_fencer 1 = .ok (.getfield 52, 3) := by decide +kernel
theorem dX7_fencer_4 : decode cX7_fencer 4 = .ok (.bipush 12, 2) := by decide +kernel
theorem dX7_fencer_6 : decode cX7_fencer 6 = .ok (.if_icmp .ge 10, 3) := by decide +kernel
theorem dX7_fencer_9 : decode cX7_fencer 9 = .ok (.aload_n 0, 1) := by decide +kernel
theorem dX7_fencer_10 : decode cX7_fencer 10 = .ok (.invokevirtual 56, 3) := by decide +kernel
theorem dX7_fencer_13 : decode cX7_fencer 13 = .ok (.ifCond .eq 13, 3) := by decide +kernel
theorem dX7_fencer_16 : decode cX7_fencer 16 = .ok (.new 60, 3) := by decide +kernel
theorem dX7_fencer_19 : decode cX7_fencer 19 = .ok (.dup, 1) := by decide +kernel
theorem dX7_fencer_20 : decode cX7_fencer 20 = .ok (.ldc 62, 2) := by decide +kernel
theorem dX7_fencer_22 : decode cX7_fencer 22 = .ok (.invokespecial 64, 3) := by decide +kernel
theorem dX7_fencer_25 : decode cX7_fencer 25 = .ok (.athrow, 1) := by decide +kernel
theorem dX7_fencer_26 : decode cX7_fencer 26 = .ok (.aload_n 0, 1) := by decide +kernel
theorem dX7_fencer_27 : decode cX7_fencer 27 = .ok (.getfield 52, 3) := by decide +kernel
theorem dX7_fencer_30 : decode cX7_fencer 30 = .ok (.istore_n 1, 1) := by decide +kernel
theorem dX7_fencer_31 : decode cX7_fencer 31 = .ok (.aload_n 0, 1) := by decide +kernel
theorem dX7_fencer_32 : decode cX7_fencer 32 = .ok (.getfield 11, 3) := by decide +kernel
theorem dX7_fencer_35 : decode cX7_fencer 35 = .ok (.iload_n 1, 1) := by decide +kernel
theorem dX7_fencer_36 : decode cX7_fencer 36 = .ok (.new 9, 3) := by decide +kernel
theorem dX7_fencer_39 : decode cX7_fencer 39 = .ok (.dup, 1) := by decide +kernel
theorem dX7_fencer_40 : decode cX7_fencer 40 = .ok (.iload_n 1, 1) := by decide +kernel
theorem dX7_fencer_41 : decode cX7_fencer 41 = .ok (.invokespecial 67, 3) := by decide +kernel
theorem dX7_fencer_44 : decode cX7_fencer 44 = .ok (.aastore, 1) := by decide +kernel
theorem dX7_fencer_45 : decode cX7_fencer 45 = .ok (.aload_n 0, 1) := by decide +kernel
theorem dX7_fencer_46 : decode cX7_fencer 46 = .ok (.dup, 1) := by decide +kernel
theorem dX7_fencer_47 : decode cX7_fencer 47 = .ok (.getfield 52, 3) := by decide +kernel
theorem dX7_fencer_50 : decode cX7_fencer 50 = .ok (.iconst 1, 1) := by decide +kernel
theorem dX7_fencer_51 : decode cX7_fencer 51 = .ok (.iadd, 1) := by decide +kernel
theorem dX7_fencer_52 : decode cX7_fencer 52 = .ok (.putfield 52, 3) := by decide +kernel
theorem dX7_fencer_55 : decode cX7_fencer 55 = .ok (.iload_n 1, 1) := by decide +kernel
theorem dX7_fencer_56 : decode cX7_fencer 56 = .ok (.ireturn, 1) := by decide +kernel
theorem dX7_weapon_0 : decode cX7_weapon 0 = .ok (.aload_n 0, 1) := by decide +kernel
theorem dX7_weapon_1 : decode cX7_weapon 1 = .ok (.iload_n 1, 1) := by decide +kernel
theorem dX7_weapon_2 : decode cX7_weapon 2 = .ok (.invokevirtual 70, 3) := by decide +kernel
theorem dX7_weapon_5 : decode cX7_weapon 5 = .ok (.ifnonnull 13, 3) := by decide +kernel
theorem dX7_weapon_8 : decode cX7_weapon 8 = .ok (.new 74, 3) := by decide +kernel
theorem dX7_weapon_11 : decode cX7_weapon 11 = .ok (.dup, 1) := by decide +kernel
theorem dX7_weapon_12 : decode cX7_weapon 12 = .ok (.ldc 76, 2) := by decide +kernel
theorem dX7_weapon_14 : decode cX7_weapon 14 = .ok (.invokespecial 78, 3) := by decide +kernel
theorem dX7_weapon_17 : decode cX7_weapon 17 = .ok (.athrow, 1) := by decide +kernel
theorem dX7_weapon_18 : decode cX7_weapon 18 = .ok (.aload_n 0, 1) := by decide +kernel
theorem dX7_weapon_19 : decode cX7_weapon 19 = .ok (.getfield 79, 3) := by decide +kernel
theorem dX7_weapon_22 : decode cX7_weapon 22 = .ok (.bipush 24, 2) := by decide +kernel
theorem dX7_weapon_24 : decode cX7_weapon 24 = .ok (.if_icmp .lt 13, 3) := by decide +kernel
theorem dX7_weapon_27 : decode cX7_weapon 27 = .ok (.new 60, 3) := by decide +kernel
theorem dX7_weapon_30 : decode cX7_weapon 30 = .ok (.dup, 1) := by decide +kernel
theorem dX7_weapon_31 : decode cX7_weapon 31 = .ok (.ldc 82, 2) := by decide +kernel
theorem dX7_weapon_33 : decode cX7_weapon 33 = .ok (.invokespecial 64, 3) := by decide +kernel
theorem dX7_weapon_36 : decode cX7_weapon 36 = .ok (.athrow, 1) := by decide +kernel
theorem dX7_weapon_37 : decode cX7_weapon 37 = .ok (.aload_n 0, 1) := by decide +kernel
theorem dX7_weapon_38 : decode cX7_weapon 38 = .ok (.getfield 79, 3) := by decide +kernel
theorem dX7_weapon_41 : decode cX7_weapon 41 = .ok (.istore_n 2, 1) := by decide +kernel
theorem dX7_weapon_42 : decode cX7_weapon 42 = .ok (.aload_n 0, 1) := by decide +kernel
theorem dX7_weapon_43 : decode cX7_weapon 43 = .ok (.getfield 17, 3) := by decide +kernel
theorem dX7_weapon_46 : decode cX7_weapon 46 = .ok (.iload_n 2, 1) := by decide +kernel
theorem dX7_weapon_47 : decode cX7_weapon 47 = .ok (.new 15, 3) := by decide +kernel
theorem dX7_weapon_50 : decode cX7_weapon 50 = .ok (.dup, 1) := by decide +kernel
theorem dX7_weapon_51 : decode cX7_weapon 51 = .ok (.iload_n 2, 1) := by decide +kernel
theorem dX7_weapon_52 : decode cX7_weapon 52 = .ok (.iload_n 1, 1) := by decide +kernel
theorem dX7_weapon_53 : decode cX7_weapon 53 = .ok (.invokespecial 84, 3) := by decide +kernel
theorem dX7_weapon_56 : decode cX7_weapon 56 = .ok (.aastore, 1) := by decide +kernel
theorem dX7_weapon_57 : decode cX7_weapon 57 = .ok (.aload_n 0, 1) := by decide +kernel
theorem dX7_weapon_58 : decode cX7_weapon 58 = .ok (.dup, 1) := by decide +kernel
theorem dX7_weapon_59 : decode cX7_weapon 59 = .ok (.getfield 79, 3) := by decide +kernel
theorem dX7_weapon_62 : decode cX7_weapon 62 = .ok (.iconst 1, 1) := by decide +kernel
theorem dX7_weapon_63 : decode cX7_weapon 63 = .ok (.iadd, 1) := by decide +kernel
theorem dX7_weapon_64 : decode cX7_weapon 64 = .ok (.putfield 79, 3) := by decide +kernel
theorem dX7_weapon_67 : decode cX7_weapon 67 = .ok (.iload_n 2, 1) := by decide +kernel
theorem dX7_weapon_68 : decode cX7_weapon 68 = .ok (.ireturn, 1) := by decide +kernel
theorem dX7_test_0 : decode cX7_test 0 = .ok (.aload_n 0, 1) := by decide +kernel
theorem dX7_test_1 : decode cX7_test 1 = .ok (.iload_n 1, 1) := by decide +kernel
theorem dX7_test_2 : decode cX7_test 2 = .ok (.invokevirtual 87, 3) := by decide +kernel
theorem dX7_test_5 : decode cX7_test 5 = .ok (.astore 4, 2) := by decide +kernel
theorem dX7_test_7 : decode cX7_test 7 = .ok (.aload 4, 2) := by decide +kernel
theorem dX7_test_9 : decode cX7_test 9 = .ok (.ifnonnull 13, 3) := by decide +kernel
theorem dX7_test_12 : decode cX7_test 12 = .ok (.new 74, 3) := by decide +kernel
theorem dX7_test_15 : decode cX7_test 15 = .ok (.dup, 1) := by decide +kernel
theorem dX7_test_16 : decode cX7_test 16 = .ok (.ldc 91, 2) := by decide +kernel
theorem dX7_test_18 : decode cX7_test 18 = .ok (.invokespecial 78, 3) := by decide +kernel
theorem dX7_test_21 : decode cX7_test 21 = .ok (.athrow, 1) := by decide +kernel
theorem dX7_test_22 : decode cX7_test 22 = .ok (.iload_n 2, 1) := by decide +kernel
theorem dX7_test_23 : decode cX7_test 23 = .ok (.ifCond .lt 20, 3) := by decide +kernel
theorem dX7_test_26 : decode cX7_test 26 = .ok (.iload_n 2, 1) := by decide +kernel
theorem dX7_test_27 : decode cX7_test 27 = .ok (.sipush 2000, 3) := by decide +kernel
theorem dX7_test_30 : decode cX7_test 30 = .ok (.if_icmp .gt 13, 3) := by decide +kernel
theorem dX7_test_33 : decode cX7_test 33 = .ok (.iload_n 3, 1) := by decide +kernel
theorem dX7_test_34 : decode cX7_test 34 = .ok (.ifCond .lt 9, 3) := by decide +kernel
theorem dX7_test_37 : decode cX7_test 37 = .ok (.iload_n 3, 1) := by decide +kernel
theorem dX7_test_38 : decode cX7_test 38 = .ok (.bipush 100, 2) := by decide +kernel
theorem dX7_test_40 : decode cX7_test 40 = .ok (.if_icmp .le 13, 3) := by decide +kernel
theorem dX7_test_43 : decode cX7_test 43 = .ok (.new 93, 3) := by decide +kernel
theorem dX7_test_46 : decode cX7_test 46 = .ok (.dup, 1) := by decide +kernel
theorem dX7_test_47 : decode cX7_test 47 = .ok (.ldc 95, 2) := by decide +kernel
theorem dX7_test_49 : decode cX7_test 49 = .ok (.invokespecial 97, 3) := by decide +kernel
theorem dX7_test_52 : decode cX7_test 52 = .ok (.athrow, 1) := by decide +kernel
theorem dX7_test_53 : decode cX7_test 53 = .ok (.aload 4, 2) := by decide +kernel
theorem dX7_test_55 : decode cX7_test 55 = .ok (.getfield 98, 3) := by decide +kernel
theorem dX7_test_58 : decode cX7_test 58 = .ok (.iconst 2, 1) := by decide +kernel
theorem dX7_test_59 : decode cX7_test 59 = .ok (.if_icmp .eq 13, 3) := by decide +kernel
theorem dX7_test_62 : decode cX7_test 62 = .ok (.aload_n 0, 1) := by decide +kernel
theorem dX7_test_63 : decode cX7_test 63 = .ok (.getfield 30, 3) := by decide +kernel
theorem dX7_test_66 : decode cX7_test 66 = .ok (.getfield 101, 3) := by decide +kernel
theorem dX7_test_69 : decode cX7_test 69 = .ok (.ifnull 13, 3) := by decide +kernel
theorem dX7_test_72 : decode cX7_test 72 = .ok (.new 60, 3) := by decide +kernel
theorem dX7_test_75 : decode cX7_test 75 = .ok (.dup, 1) := by decide +kernel
theorem dX7_test_76 : decode cX7_test 76 = .ok (.ldc 105, 2) := by decide +kernel
theorem dX7_test_78 : decode cX7_test 78 = .ok (.invokespecial 64, 3) := by decide +kernel
theorem dX7_test_81 : decode cX7_test 81 = .ok (.athrow, 1) := by decide +kernel
theorem dX7_test_82 : decode cX7_test 82 = .ok (.iload_n 2, 1) := by decide +kernel
theorem dX7_test_83 : decode cX7_test 83 = .ok (.sipush 500, 3) := by decide +kernel
theorem dX7_test_86 : decode cX7_test 86 = .ok (.if_icmp .lt 20, 3) := by decide +kernel
theorem dX7_test_89 : decode cX7_test 89 = .ok (.iload_n 2, 1) := by decide +kernel
theorem dX7_test_90 : decode cX7_test 90 = .ok (.sipush 770, 3) := by decide +kernel
theorem dX7_test_93 : decode cX7_test 93 = .ok (.if_icmp .gt 13, 3) := by decide +kernel
theorem dX7_test_96 : decode cX7_test 96 = .ok (.iload_n 3, 1) := by decide +kernel
theorem dX7_test_97 : decode cX7_test 97 = .ok (.bipush 15, 2) := by decide +kernel
theorem dX7_test_99 : decode cX7_test 99 = .ok (.if_icmp .gt 7, 3) := by decide +kernel
theorem dX7_test_102 : decode cX7_test 102 = .ok (.iconst 1, 1) := by decide +kernel
theorem dX7_test_103 : decode cX7_test 103 = .ok (.goto 4, 3) := by decide +kernel
theorem dX7_test_106 : decode cX7_test 106 = .ok (.iconst 0, 1) := by decide +kernel
theorem dX7_test_107 : decode cX7_test 107 = .ok (.istore 5, 2) := by decide +kernel
theorem dX7_test_109 : decode cX7_test 109 = .ok (.iload 5, 2) := by decide +kernel
theorem dX7_test_111 : decode cX7_test 111 = .ok (.ifCond .eq 12, 3) := by decide +kernel
theorem dX7_test_114 : decode cX7_test 114 = .ok (.aload 4, 2) := by decide +kernel
theorem dX7_test_116 : decode cX7_test 116 = .ok (.iconst 1, 1) := by decide +kernel
theorem dX7_test_117 : decode cX7_test 117 = .ok (.putfield 98, 3) := by decide +kernel
theorem dX7_test_120 : decode cX7_test 120 = .ok (.goto 9, 3) := by decide +kernel
theorem dX7_test_123 : decode cX7_test 123 = .ok (.aload_n 0, 1) := by decide +kernel
theorem dX7_test_124 : decode cX7_test 124 = .ok (.aload 4, 2) := by decide +kernel
theorem dX7_test_126 : decode cX7_test 126 = .ok (.invokevirtual 107, 3) := by decide +kernel
theorem dX7_test_129 : decode cX7_test 129 = .ok (.iload 5, 2) := by decide +kernel
theorem dX7_test_131 : decode cX7_test 131 = .ok (.ireturn, 1) := by decide +kernel
theorem dX7_fencers_0 : decode cX7_fencers 0 = .ok (.aload_n 0, 1) := by decide +kernel
theorem dX7_fencers_1 : decode cX7_fencers 1 = .ok (.getfield 52, 3) := by decide +kernel
theorem dX7_fencers_4 : decode cX7_fencers 4 = .ok (.ireturn, 1) := by decide +kernel
theorem dX7_mark_0 : decode cX7_mark 0 = .ok (.aload_n 0, 1) := by decide +kernel
theorem dX7_mark_1 : decode cX7_mark 1 = .ok (.iload_n 1, 1) := by decide +kernel
theorem dX7_mark_2 : decode cX7_mark 2 = .ok (.invokevirtual 87, 3) := by decide +kernel
theorem dX7_mark_5 : decode cX7_mark 5 = .ok (.astore_n 2, 1) := by decide +kernel
theorem dX7_mark_6 : decode cX7_mark 6 = .ok (.aload_n 2, 1) := by decide +kernel
theorem dX7_mark_7 : decode cX7_mark 7 = .ok (.ifnonnull 13, 3) := by decide +kernel
theorem dX7_mark_10 : decode cX7_mark 10 = .ok (.new 74, 3) := by decide +kernel
theorem dX7_mark_13 : decode cX7_mark 13 = .ok (.dup, 1) := by decide +kernel
theorem dX7_mark_14 : decode cX7_mark 14 = .ok (.ldc 91, 2) := by decide +kernel
theorem dX7_mark_16 : decode cX7_mark 16 = .ok (.invokespecial 78, 3) := by decide +kernel
theorem dX7_mark_19 : decode cX7_mark 19 = .ok (.athrow, 1) := by decide +kernel
theorem dX7_mark_20 : decode cX7_mark 20 = .ok (.aload_n 2, 1) := by decide +kernel
theorem dX7_mark_21 : decode cX7_mark 21 = .ok (.getfield 98, 3) := by decide +kernel
theorem dX7_mark_24 : decode cX7_mark 24 = .ok (.ireturn, 1) := by decide +kernel
theorem dX7_owner_0 : decode cX7_owner 0 = .ok (.aload_n 0, 1) := by decide +kernel
theorem dX7_owner_1 : decode cX7_owner 1 = .ok (.iload_n 1, 1) := by decide +kernel
theorem dX7_owner_2 : decode cX7_owner 2 = .ok (.invokevirtual 87, 3) := by decide +kernel
theorem dX7_owner_5 : decode cX7_owner 5 = .ok (.astore_n 2, 1) := by decide +kernel
theorem dX7_owner_6 : decode cX7_owner 6 = .ok (.aload_n 2, 1) := by decide +kernel
theorem dX7_owner_7 : decode cX7_owner 7 = .ok (.ifnonnull 13, 3) := by decide +kernel
theorem dX7_owner_10 : decode cX7_owner 10 = .ok (.new 74, 3) := by decide +kernel
theorem dX7_owner_13 : decode cX7_owner 13 = .ok (.dup, 1) := by decide +kernel
theorem dX7_owner_14 : decode cX7_owner 14 = .ok (.ldc 91, 2) := by decide +kernel
theorem dX7_owner_16 : decode cX7_owner 16 = .ok (.invokespecial 78, 3) := by decide +kernel
theorem dX7_owner_19 : decode cX7_owner 19 = .ok (.athrow, 1) := by decide +kernel
theorem dX7_owner_20 : decode cX7_owner 20 = .ok (.aload_n 2, 1) := by decide +kernel
theorem dX7_owner_21 : decode cX7_owner 21 = .ok (.getfield 111, 3) := by decide +kernel
theorem dX7_owner_24 : decode cX7_owner 24 = .ok (.ireturn, 1) := by decide +kernel
theorem dX7_begin_0 : decode cX7_begin 0 = .ok (.aload_n 0, 1) := by decide +kernel
theorem dX7_begin_1 : decode cX7_begin 1 = .ok (.iload_n 1, 1) := by decide +kernel
theorem dX7_begin_2 : decode cX7_begin 2 = .ok (.invokevirtual 114, 3) := by decide +kernel
theorem dX7_begin_5 : decode cX7_begin 5 = .ok (.astore 4, 2) := by decide +kernel
theorem dX7_begin_7 : decode cX7_begin 7 = .ok (.aload_n 0, 1) := by decide +kernel
theorem dX7_begin_8 : decode cX7_begin 8 = .ok (.iload_n 2, 1) := by decide +kernel
theorem dX7_begin_9 : decode cX7_begin 9 = .ok (.invokevirtual 87, 3) := by decide +kernel
theorem dX7_begin_12 : decode cX7_begin 12 = .ok (.astore 5, 2) := by decide +kernel
theorem dX7_begin_14 : decode cX7_begin 14 = .ok (.aload_n 0, 1) := by decide +kernel
theorem dX7_begin_15 : decode cX7_begin 15 = .ok (.iload_n 3, 1) := by decide +kernel
theorem dX7_begin_16 : decode cX7_begin 16 = .ok (.invokevirtual 87, 3) := by decide +kernel
theorem dX7_begin_19 : decode cX7_begin 19 = .ok (.astore 6, 2) := by decide +kernel
theorem dX7_begin_21 : decode cX7_begin 21 = .ok (.aload 4, 2) := by decide +kernel
theorem dX7_begin_23 : decode cX7_begin 23 = .ok (.ifnull 13, 3) := by decide +kernel
theorem dX7_begin_26 : decode cX7_begin 26 = .ok (.aload 5, 2) := by decide +kernel
theorem dX7_begin_28 : decode cX7_begin 28 = .ok (.ifnull 8, 3) := by decide +kernel
theorem dX7_begin_31 : decode cX7_begin 31 = .ok (.aload 6, 2) := by decide +kernel
theorem dX7_begin_33 : decode cX7_begin 33 = .ok (.ifnonnull 13, 3) := by decide +kernel
theorem dX7_begin_36 : decode cX7_begin 36 = .ok (.new 74, 3) := by decide +kernel
theorem dX7_begin_39 : decode cX7_begin 39 = .ok (.dup, 1) := by decide +kernel
theorem dX7_begin_40 : decode cX7_begin 40 = .ok (.ldc 118, 2) := by decide +kernel
theorem dX7_begin_42 : decode cX7_begin 42 = .ok (.invokespecial 78, 3) := by decide +kernel
theorem dX7_begin_45 : decode cX7_begin 45 = .ok (.athrow, 1) := by decide +kernel
theorem dX7_begin_46 : decode cX7_begin 46 = .ok (.aload_n 0, 1) := by decide +kernel
theorem dX7_begin_47 : decode cX7_begin 47 = .ok (.getfield 30, 3) := by decide +kernel
theorem dX7_begin_50 : decode cX7_begin 50 = .ok (.getfield 101, 3) := by decide +kernel
theorem dX7_begin_53 : decode cX7_begin 53 = .ok (.ifnonnull 11, 3) := by decide +kernel
theorem dX7_begin_56 : decode cX7_begin 56 = .ok (.aload 4, 2) := by decide +kernel
theorem dX7_begin_58 : decode cX7_begin 58 = .ok (.invokevirtual 120, 3) := by decide +kernel
theorem dX7_begin_61 : decode cX7_begin 61 = .ok (.ifCond .ne 13, 3) := by decide +kernel
theorem dX7_begin_64 : decode cX7_begin 64 = .ok (.new 60, 3) := by decide +kernel
theorem dX7_begin_67 : decode cX7_begin 67 = .ok (.dup, 1) := by decide +kernel
theorem dX7_begin_68 : decode cX7_begin 68 = .ok (.ldc 123, 2) := by decide +kernel
theorem dX7_begin_70 : decode cX7_begin 70 = .ok (.invokespecial 64, 3) := by decide +kernel
theorem dX7_begin_73 : decode cX7_begin 73 = .ok (.athrow, 1) := by decide +kernel
theorem dX7_begin_74 : decode cX7_begin 74 = .ok (.aload 5, 2) := by decide +kernel
theorem dX7_begin_76 : decode cX7_begin 76 = .ok (.aload 4, 2) := by decide +kernel
theorem dX7_begin_78 : decode cX7_begin 78 = .ok (.getfield 125, 3) := by decide +kernel
theorem dX7_begin_81 : decode cX7_begin 81 = .ok (.invokevirtual 128, 3) := by decide +kernel
theorem dX7_begin_84 : decode cX7_begin 84 = .ok (.ifCond .eq 16, 3) := by decide +kernel
theorem dX7_begin_87 : decode cX7_begin 87 = .ok (.aload 6, 2) := by decide +kernel
theorem dX7_begin_89 : decode cX7_begin 89 = .ok (.aload 4, 2) := by decide +kernel
theorem dX7_begin_91 : decode cX7_begin 91 = .ok (.getfield 132, 3) := by decide +kernel
theorem dX7_begin_94 : decode cX7_begin 94 = .ok (.invokevirtual 128, 3) := by decide +kernel
theorem dX7_begin_97 : decode cX7_begin 97 = .ok (.ifCond .ne 13, 3) := by decide +kernel
theorem dX7_begin_100 : decode cX7_begin 100 = .ok (.new 60, 3) := by decide +kernel
theorem dX7_begin_103 : decode cX7_begin 103 = .ok (.dup, 1) := by decide +kernel
theorem dX7_begin_104 : decode cX7_begin 104 = .ok (.ldc 135, 2) := by decide +kernel
theorem dX7_begin_106 : decode cX7_begin 106 = .ok (.invokespecial 64, 3) := by decide +kernel
theorem dX7_begin_109 : decode cX7_begin 109 = .ok (.athrow, 1) := by decide +kernel
theorem dX7_begin_110 : decode cX7_begin 110 = .ok (.aload_n 0, 1) := by decide +kernel
theorem dX7_begin_111 : decode cX7_begin 111 = .ok (.getfield 30, 3) := by decide +kernel
theorem dX7_begin_114 : decode cX7_begin 114 = .ok (.iload_n 1, 1) := by decide +kernel
theorem dX7_begin_115 : decode cX7_begin 115 = .ok (.aload 4, 2) := by decide +kernel
theorem dX7_begin_117 : decode cX7_begin 117 = .ok (.aload 5, 2) := by decide +kernel
theorem dX7_begin_119 : decode cX7_begin 119 = .ok (.aload 6, 2) := by decide +kernel
theorem dX7_begin_121 : decode cX7_begin 121 = .ok (.invokevirtual 137, 3) := by decide +kernel
theorem dX7_begin_124 : decode cX7_begin 124 = .ok (.aload 4, 2) := by decide +kernel
theorem dX7_begin_126 : decode cX7_begin 126 = .ok (.getfield 141, 3) := by decide +kernel
theorem dX7_begin_129 : decode cX7_begin 129 = .ok (.ireturn, 1) := by decide +kernel
theorem dX7_change_0 : decode cX7_change 0 = .ok (.aload_n 0, 1) := by decide +kernel
theorem dX7_change_1 : decode cX7_change 1 = .ok (.iload_n 2, 1) := by decide +kernel
theorem dX7_change_2 : decode cX7_change 2 = .ok (.invokevirtual 87, 3) := by decide +kernel
theorem dX7_change_5 : decode cX7_change 5 = .ok (.astore_n 3, 1) := by decide +kernel
theorem dX7_change_6 : decode cX7_change 6 = .ok (.iload_n 1, 1) := by decide +kernel
theorem dX7_change_7 : decode cX7_change 7 = .ok (.invokestatic 144, 3) := by decide +kernel
theorem dX7_change_10 : decode cX7_change 10 = .ok (.ifCond .eq 7, 3) := by decide +kernel
theorem dX7_change_13 : decode cX7_change 13 = .ok (.aload_n 3, 1) := by decide +kernel
theorem dX7_change_14 : decode cX7_change 14 = .ok (.ifnonnull 13, 3) := by decide +kernel
theorem dX7_change_17 : decode cX7_change 17 = .ok (.new 74, 3) := by decide +kernel
theorem dX7_change_20 : decode cX7_change 20 = .ok (.dup, 1) := by decide +kernel
theorem dX7_change_21 : decode cX7_change 21 = .ok (.ldc 147, 2) := by decide +kernel
theorem dX7_change_23 : decode cX7_change 23 = .ok (.invokespecial 78, 3) := by decide +kernel
theorem dX7_change_26 : decode cX7_change 26 = .ok (.athrow, 1) := by decide +kernel
theorem dX7_change_27 : decode cX7_change 27 = .ok (.aload_n 0, 1) := by decide +kernel
theorem dX7_change_28 : decode cX7_change 28 = .ok (.getfield 30, 3) := by decide +kernel
theorem dX7_change_31 : decode cX7_change 31 = .ok (.getfield 149, 3) := by decide +kernel
theorem dX7_change_34 : decode cX7_change 34 = .ok (.astore 4, 2) := by decide +kernel
theorem dX7_change_36 : decode cX7_change 36 = .ok (.aload 4, 2) := by decide +kernel
theorem dX7_change_38 : decode cX7_change 38 = .ok (.ifnull 13, 3) := by decide +kernel
theorem dX7_change_41 : decode cX7_change 41 = .ok (.aload_n 0, 1) := by decide +kernel
theorem dX7_change_42 : decode cX7_change 42 = .ok (.getfield 30, 3) := by decide +kernel
theorem dX7_change_45 : decode cX7_change 45 = .ok (.getfield 101, 3) := by decide +kernel
theorem dX7_change_48 : decode cX7_change 48 = .ok (.ifnull 13, 3) := by decide +kernel
theorem dX7_change_51 : decode cX7_change 51 = .ok (.new 60, 3) := by decide +kernel
theorem dX7_change_54 : decode cX7_change 54 = .ok (.dup, 1) := by decide +kernel
theorem dX7_change_55 : decode cX7_change 55 = .ok (.ldc 153, 2) := by decide +kernel
theorem dX7_change_57 : decode cX7_change 57 = .ok (.invokespecial 64, 3) := by decide +kernel
theorem dX7_change_60 : decode cX7_change 60 = .ok (.athrow, 1) := by decide +kernel
theorem dX7_change_61 : decode cX7_change 61 = .ok (.aload_n 3, 1) := by decide +kernel
theorem dX7_change_62 : decode cX7_change 62 = .ok (.aload 4, 2) := by decide +kernel
theorem dX7_change_64 : decode cX7_change 64 = .ok (.iload_n 1, 1) := by decide +kernel
theorem dX7_change_65 : decode cX7_change 65 = .ok (.invokevirtual 155, 3) := by decide +kernel
theorem dX7_change_68 : decode cX7_change 68 = .ok (.invokevirtual 128, 3) := by decide +kernel
theorem dX7_change_71 : decode cX7_change 71 = .ok (.ifCond .ne 13, 3) := by decide +kernel
theorem dX7_change_74 : decode cX7_change 74 = .ok (.new 60, 3) := by decide +kernel
theorem dX7_change_77 : decode cX7_change 77 = .ok (.dup, 1) := by decide +kernel
theorem dX7_change_78 : decode cX7_change 78 = .ok (.ldc 158, 2) := by decide +kernel
theorem dX7_change_80 : decode cX7_change 80 = .ok (.invokespecial 64, 3) := by decide +kernel
theorem dX7_change_83 : decode cX7_change 83 = .ok (.athrow, 1) := by decide +kernel
theorem dX7_change_84 : decode cX7_change 84 = .ok (.aload_n 0, 1) := by decide +kernel
theorem dX7_change_85 : decode cX7_change 85 = .ok (.getfield 30, 3) := by decide +kernel
theorem dX7_change_88 : decode cX7_change 88 = .ok (.iload_n 1, 1) := by decide +kernel
theorem dX7_change_89 : decode cX7_change 89 = .ok (.invokevirtual 160, 3) := by decide +kernel
theorem dX7_change_92 : decode cX7_change 92 = .ok (.istore 5, 2) := by decide +kernel
theorem dX7_change_94 : decode cX7_change 94 = .ok (.aload_n 0, 1) := by decide +kernel
theorem dX7_change_95 : decode cX7_change 95 = .ok (.getfield 30, 3) := by decide +kernel
theorem dX7_change_98 : decode cX7_change 98 = .ok (.iload_n 1, 1) := by decide +kernel
theorem dX7_change_99 : decode cX7_change 99 = .ok (.aload_n 3, 1) := by decide +kernel
theorem dX7_change_100 : decode cX7_change 100 = .ok (.invokevirtual 163, 3) := by decide +kernel
theorem dX7_change_103 : decode cX7_change 103 = .ok (.iload 5, 2) := by decide +kernel
theorem dX7_change_105 : decode cX7_change 105 = .ok (.ireturn, 1) := by decide +kernel
theorem dX7_allez_0 : decode cX7_allez 0 = .ok (.aload_n 0, 1) := by decide +kernel
theorem dX7_allez_1 : decode cX7_allez 1 = .ok (.getfield 30, 3) := by decide +kernel
theorem dX7_allez_4 : decode cX7_allez 4 = .ok (.getfield 149, 3) := by decide +kernel
theorem dX7_allez_7 : decode cX7_allez 7 = .ok (.astore_n 1, 1) := by decide +kernel
theorem dX7_allez_8 : decode cX7_allez 8 = .ok (.aload_n 0, 1) := by decide +kernel
theorem dX7_allez_9 : decode cX7_allez 9 = .ok (.getfield 30, 3) := by decide +kernel
theorem dX7_allez_12 : decode cX7_allez 12 = .ok (.getfield 167, 3) := by decide +kernel
theorem dX7_allez_15 : decode cX7_allez 15 = .ok (.astore_n 2, 1) := by decide +kernel
theorem dX7_allez_16 : decode cX7_allez 16 = .ok (.aload_n 0, 1) := by decide +kernel
theorem dX7_allez_17 : decode cX7_allez 17 = .ok (.getfield 30, 3) := by decide +kernel
theorem dX7_allez_20 : decode cX7_allez 20 = .ok (.getfield 170, 3) := by decide +kernel
theorem dX7_allez_23 : decode cX7_allez 23 = .ok (.astore_n 3, 1) := by decide +kernel
theorem dX7_allez_24 : decode cX7_allez 24 = .ok (.aload_n 1, 1) := by decide +kernel
theorem dX7_allez_25 : decode cX7_allez 25 = .ok (.ifnull 21, 3) := by decide +kernel
theorem dX7_allez_28 : decode cX7_allez 28 = .ok (.aload_n 2, 1) := by decide +kernel
theorem dX7_allez_29 : decode cX7_allez 29 = .ok (.ifnull 17, 3) := by decide +kernel
theorem dX7_allez_32 : decode cX7_allez 32 = .ok (.aload_n 3, 1) := by decide +kernel
theorem dX7_allez_33 : decode cX7_allez 33 = .ok (.ifnull 13, 3) := by decide +kernel
theorem dX7_allez_36 : decode cX7_allez 36 = .ok (.aload_n 0, 1) := by decide +kernel
theorem dX7_allez_37 : decode cX7_allez 37 = .ok (.getfield 30, 3) := by decide +kernel
theorem dX7_allez_40 : decode cX7_allez 40 = .ok (.getfield 101, 3) := by decide +kernel
theorem dX7_allez_43 : decode cX7_allez 43 = .ok (.ifnull 13, 3) := by decide +kernel
theorem dX7_allez_46 : decode cX7_allez 46 = .ok (.new 60, 3) := by decide +kernel
theorem dX7_allez_49 : decode cX7_allez 49 = .ok (.dup, 1) := by decide +kernel
theorem dX7_allez_50 : decode cX7_allez 50 = .ok (.ldc 153, 2) := by decide +kernel
theorem dX7_allez_52 : decode cX7_allez 52 = .ok (.invokespecial 64, 3) := by decide +kernel
theorem dX7_allez_55 : decode cX7_allez 55 = .ok (.athrow, 1) := by decide +kernel
theorem dX7_allez_56 : decode cX7_allez 56 = .ok (.aload_n 1, 1) := by decide +kernel
theorem dX7_allez_57 : decode cX7_allez 57 = .ok (.invokevirtual 120, 3) := by decide +kernel
theorem dX7_allez_60 : decode cX7_allez 60 = .ok (.ifCond .eq 19, 3) := by decide +kernel
theorem dX7_allez_63 : decode cX7_allez 63 = .ok (.aload_n 2, 1) := by decide +kernel
theorem dX7_allez_64 : decode cX7_allez 64 = .ok (.getfield 98, 3) := by decide +kernel
theorem dX7_allez_67 : decode cX7_allez 67 = .ok (.iconst 1, 1) := by decide +kernel
theorem dX7_allez_68 : decode cX7_allez 68 = .ok (.if_icmp .ne 11, 3) := by decide +kernel
theorem dX7_allez_71 : decode cX7_allez 71 = .ok (.aload_n 3, 1) := by decide +kernel
theorem dX7_allez_72 : decode cX7_allez 72 = .ok (.getfield 98, 3) := by decide +kernel
theorem dX7_allez_75 : decode cX7_allez 75 = .ok (.iconst 1, 1) := by decide +kernel
theorem dX7_allez_76 : decode cX7_allez 76 = .ok (.if_icmp .eq 13, 3) := by decide +kernel
theorem dX7_allez_79 : decode cX7_allez 79 = .ok (.new 60, 3) := by decide +kernel
theorem dX7_allez_82 : decode cX7_allez 82 = .ok (.dup, 1) := by decide +kernel
theorem dX7_allez_83 : decode cX7_allez 83 = .ok (.ldc 172, 2) := by decide +kernel
theorem dX7_allez_85 : decode cX7_allez 85 = .ok (.invokespecial 64, 3) := by decide +kernel
theorem dX7_allez_88 : decode cX7_allez 88 = .ok (.athrow, 1) := by decide +kernel
theorem dX7_allez_89 : decode cX7_allez 89 = .ok (.aload_n 0, 1) := by decide +kernel
theorem dX7_allez_90 : decode cX7_allez 90 = .ok (.getfield 30, 3) := by decide +kernel
theorem dX7_allez_93 : decode cX7_allez 93 = .ok (.new 174, 3) := by decide +kernel
theorem dX7_allez_96 : decode cX7_allez 96 = .ok (.dup, 1) := by decide +kernel
theorem dX7_allez_97 : decode cX7_allez 97 = .ok (.aload_n 0, 1) := by decide +kernel
theorem dX7_allez_98 : decode cX7_allez 98 = .ok (.getfield 48, 3) := by decide +kernel
end
section
theorem dX7_allez_101 : decode cX7_allez 101 = .ok (.aload_n 2, 1) := by decide +kernel
theorem dX7_allez_102 : decode cX7_allez 102 = .ok (.aload_n 3, 1) := by decide +kernel
theorem dX7_allez_103 : decode cX7_allez 103 = .ok (.invokespecial 176, 3) := by decide +kernel
theorem dX7_allez_106 : decode cX7_allez 106 = .ok (.putfield 101, 3) := by decide +kernel
theorem dX7_allez_109 : decode cX7_allez 109 = .ok (.aload_n 1, 1) := by decide +kernel
theorem dX7_allez_110 : decode cX7_allez 110 = .ok (.getfield 141, 3) := by decide +kernel
theorem dX7_allez_113 : decode cX7_allez 113 = .ok (.ireturn, 1) := by decide +kernel
theorem dX7_contact_0 : decode cX7_contact 0 = .ok (.iload_n 1, 1) := by decide +kernel
theorem dX7_contact_1 : decode cX7_contact 1 = .ok (.invokestatic 144, 3) := by decide +kernel
theorem dX7_contact_4 : decode cX7_contact 4 = .ok (.ifCond .ne 13, 3) := by decide +kernel
theorem dX7_contact_7 : decode cX7_contact 7 = .ok (.new 74, 3) := by decide +kernel
theorem dX7_contact_10 : decode cX7_contact 10 = .ok (.dup, 1) := by decide +kernel
theorem dX7_contact_11 : decode cX7_contact 11 = .ok (.ldc 179, 2) := by decide +kernel
theorem dX7_contact_13 : decode cX7_contact 13 = .ok (.invokespecial 78, 3) := by decide +kernel
theorem dX7_contact_16 : decode cX7_contact 16 = .ok (.athrow, 1) := by decide +kernel
theorem dX7_contact_17 : decode cX7_contact 17 = .ok (.aload_n 0, 1) := by decide +kernel
theorem dX7_contact_18 : decode cX7_contact 18 = .ok (.iload_n 3, 1) := by decide +kernel
theorem dX7_contact_19 : decode cX7_contact 19 = .ok (.invokevirtual 181, 3) := by decide +kernel
theorem dX7_contact_22 : decode cX7_contact 22 = .ok (.ifCond .eq 13, 3) := by decide +kernel
theorem dX7_contact_25 : decode cX7_contact 25 = .ok (.new 93, 3) := by decide +kernel
theorem dX7_contact_28 : decode cX7_contact 28 = .ok (.dup, 1) := by decide +kernel
theorem dX7_contact_29 : decode cX7_contact 29 = .ok (.ldc 184, 2) := by decide +kernel
theorem dX7_contact_31 : decode cX7_contact 31 = .ok (.invokespecial 97, 3) := by decide +kernel
theorem dX7_contact_34 : decode cX7_contact 34 = .ok (.athrow, 1) := by decide +kernel
theorem dX7_contact_35 : decode cX7_contact 35 = .ok (.aload_n 0, 1) := by decide +kernel
theorem dX7_contact_36 : decode cX7_contact 36 = .ok (.getfield 30, 3) := by decide +kernel
theorem dX7_contact_39 : decode cX7_contact 39 = .ok (.getfield 101, 3) := by decide +kernel
theorem dX7_contact_42 : decode cX7_contact 42 = .ok (.astore 4, 2) := by decide +kernel
theorem dX7_contact_44 : decode cX7_contact 44 = .ok (.aload 4, 2) := by decide +kernel
theorem dX7_contact_46 : decode cX7_contact 46 = .ok (.ifnull 11, 3) := by decide +kernel
theorem dX7_contact_49 : decode cX7_contact 49 = .ok (.aload 4, 2) := by decide +kernel
theorem dX7_contact_51 : decode cX7_contact 51 = .ok (.invokevirtual 186, 3) := by decide +kernel
theorem dX7_contact_54 : decode cX7_contact 54 = .ok (.ifCond .eq 13, 3) := by decide +kernel
theorem dX7_contact_57 : decode cX7_contact 57 = .ok (.new 60, 3) := by decide +kernel
theorem dX7_contact_60 : decode cX7_contact 60 = .ok (.dup, 1) := by decide +kernel
theorem dX7_contact_61 : decode cX7_contact 61 = .ok (.ldc 189, 2) := by decide +kernel
theorem dX7_contact_63 : decode cX7_contact 63 = .ok (.invokespecial 64, 3) := by decide +kernel
theorem dX7_contact_66 : decode cX7_contact 66 = .ok (.athrow, 1) := by decide +kernel
theorem dX7_contact_67 : decode cX7_contact 67 = .ok (.aload 4, 2) := by decide +kernel
theorem dX7_contact_69 : decode cX7_contact 69 = .ok (.iload_n 2, 1) := by decide +kernel
theorem dX7_contact_70 : decode cX7_contact 70 = .ok (.ifCond .eq 7, 3) := by decide +kernel
theorem dX7_contact_73 : decode cX7_contact 73 = .ok (.iconst 0, 1) := by decide +kernel
theorem dX7_contact_74 : decode cX7_contact 74 = .ok (.goto 4, 3) := by decide +kernel
theorem dX7_contact_77 : decode cX7_contact 77 = .ok (.iconst 1, 1) := by decide +kernel
theorem dX7_contact_78 : decode cX7_contact 78 = .ok (.iload_n 1, 1) := by decide +kernel
theorem dX7_contact_79 : decode cX7_contact 79 = .ok (.iload_n 3, 1) := by decide +kernel
theorem dX7_contact_80 : decode cX7_contact 80 = .ok (.invokevirtual 191, 3) := by decide +kernel
theorem dX7_contact_83 : decode cX7_contact 83 = .ok (.aload 4, 2) := by decide +kernel
theorem dX7_contact_85 : decode cX7_contact 85 = .ok (.getfield 195, 3) := by decide +kernel
theorem dX7_contact_88 : decode cX7_contact 88 = .ok (.ireturn, 1) := by decide +kernel
theorem dX7_right_0 : decode cX7_right 0 = .ok (.iload_n 1, 1) := by decide +kernel
theorem dX7_right_1 : decode cX7_right 1 = .ok (.invokestatic 198, 3) := by decide +kernel
theorem dX7_right_4 : decode cX7_right 4 = .ok (.ifCond .eq 11, 3) := by decide +kernel
theorem dX7_right_7 : decode cX7_right 7 = .ok (.aload_n 0, 1) := by decide +kernel
theorem dX7_right_8 : decode cX7_right 8 = .ok (.iload_n 2, 1) := by decide +kernel
theorem dX7_right_9 : decode cX7_right 9 = .ok (.invokevirtual 181, 3) := by decide +kernel
theorem dX7_right_12 : decode cX7_right 12 = .ok (.ifCond .eq 13, 3) := by decide +kernel
theorem dX7_right_15 : decode cX7_right 15 = .ok (.new 93, 3) := by decide +kernel
theorem dX7_right_18 : decode cX7_right 18 = .ok (.dup, 1) := by decide +kernel
theorem dX7_right_19 : decode cX7_right 19 = .ok (.ldc 201, 2) := by decide +kernel
theorem dX7_right_21 : decode cX7_right 21 = .ok (.invokespecial 97, 3) := by decide +kernel
theorem dX7_right_24 : decode cX7_right 24 = .ok (.athrow, 1) := by decide +kernel
theorem dX7_right_25 : decode cX7_right 25 = .ok (.aload_n 0, 1) := by decide +kernel
theorem dX7_right_26 : decode cX7_right 26 = .ok (.getfield 30, 3) := by decide +kernel
theorem dX7_right_29 : decode cX7_right 29 = .ok (.getfield 101, 3) := by decide +kernel
theorem dX7_right_32 : decode cX7_right 32 = .ok (.astore_n 3, 1) := by decide +kernel
theorem dX7_right_33 : decode cX7_right 33 = .ok (.aload_n 3, 1) := by decide +kernel
theorem dX7_right_34 : decode cX7_right 34 = .ok (.ifnull 10, 3) := by decide +kernel
theorem dX7_right_37 : decode cX7_right 37 = .ok (.aload_n 3, 1) := by decide +kernel
theorem dX7_right_38 : decode cX7_right 38 = .ok (.invokevirtual 186, 3) := by decide +kernel
theorem dX7_right_41 : decode cX7_right 41 = .ok (.ifCond .eq 13, 3) := by decide +kernel
theorem dX7_right_44 : decode cX7_right 44 = .ok (.new 60, 3) := by decide +kernel
theorem dX7_right_47 : decode cX7_right 47 = .ok (.dup, 1) := by decide +kernel
theorem dX7_right_48 : decode cX7_right 48 = .ok (.ldc 189, 2) := by decide +kernel
theorem dX7_right_50 : decode cX7_right 50 = .ok (.invokespecial 64, 3) := by decide +kernel
theorem dX7_right_53 : decode cX7_right 53 = .ok (.athrow, 1) := by decide +kernel
theorem dX7_right_54 : decode cX7_right 54 = .ok (.aload_n 3, 1) := by decide +kernel
theorem dX7_right_55 : decode cX7_right 55 = .ok (.iconst 2, 1) := by decide +kernel
theorem dX7_right_56 : decode cX7_right 56 = .ok (.iload_n 1, 1) := by decide +kernel
theorem dX7_right_57 : decode cX7_right 57 = .ok (.iload_n 2, 1) := by decide +kernel
theorem dX7_right_58 : decode cX7_right 58 = .ok (.invokevirtual 191, 3) := by decide +kernel
theorem dX7_right_61 : decode cX7_right 61 = .ok (.aload_n 3, 1) := by decide +kernel
theorem dX7_right_62 : decode cX7_right 62 = .ok (.getfield 195, 3) := by decide +kernel
theorem dX7_right_65 : decode cX7_right 65 = .ok (.ireturn, 1) := by decide +kernel
theorem dX7_halt_0 : decode cX7_halt 0 = .ok (.aload_n 0, 1) := by decide +kernel
theorem dX7_halt_1 : decode cX7_halt 1 = .ok (.getfield 30, 3) := by decide +kernel
theorem dX7_halt_4 : decode cX7_halt 4 = .ok (.getfield 149, 3) := by decide +kernel
theorem dX7_halt_7 : decode cX7_halt 7 = .ok (.astore_n 1, 1) := by decide +kernel
theorem dX7_halt_8 : decode cX7_halt 8 = .ok (.aload_n 0, 1) := by decide +kernel
theorem dX7_halt_9 : decode cX7_halt 9 = .ok (.getfield 30, 3) := by decide +kernel
theorem dX7_halt_12 : decode cX7_halt 12 = .ok (.getfield 101, 3) := by decide +kernel
theorem dX7_halt_15 : decode cX7_halt 15 = .ok (.astore_n 2, 1) := by decide +kernel
theorem dX7_halt_16 : decode cX7_halt 16 = .ok (.aload_n 1, 1) := by decide +kernel
theorem dX7_halt_17 : decode cX7_halt 17 = .ok (.ifnull 7, 3) := by decide +kernel
theorem dX7_halt_20 : decode cX7_halt 20 = .ok (.aload_n 2, 1) := by decide +kernel
theorem dX7_halt_21 : decode cX7_halt 21 = .ok (.ifnonnull 13, 3) := by decide +kernel
theorem dX7_halt_24 : decode cX7_halt 24 = .ok (.new 60, 3) := by decide +kernel
theorem dX7_halt_27 : decode cX7_halt 27 = .ok (.dup, 1) := by decide +kernel
theorem dX7_halt_28 : decode cX7_halt 28 = .ok (.ldc 203, 2) := by decide +kernel
theorem dX7_halt_30 : decode cX7_halt 30 = .ok (.invokespecial 64, 3) := by decide +kernel
theorem dX7_halt_33 : decode cX7_halt 33 = .ok (.athrow, 1) := by decide +kernel
theorem dX7_halt_34 : decode cX7_halt 34 = .ok (.aload_n 2, 1) := by decide +kernel
theorem dX7_halt_35 : decode cX7_halt 35 = .ok (.aload_n 2, 1) := by decide +kernel
theorem dX7_halt_36 : decode cX7_halt 36 = .ok (.invokevirtual 205, 3) := by decide +kernel
theorem dX7_halt_39 : decode cX7_halt 39 = .ok (.putfield 209, 3) := by decide +kernel
theorem dX7_halt_42 : decode cX7_halt 42 = .ok (.aload_n 1, 1) := by decide +kernel
theorem dX7_halt_43 : decode cX7_halt 43 = .ok (.aload_n 2, 1) := by decide +kernel
theorem dX7_halt_44 : decode cX7_halt 44 = .ok (.invokevirtual 212, 3) := by decide +kernel
theorem dX7_halt_47 : decode cX7_halt 47 = .ok (.aload_n 0, 1) := by decide +kernel
theorem dX7_halt_48 : decode cX7_halt 48 = .ok (.getfield 30, 3) := by decide +kernel
theorem dX7_halt_51 : decode cX7_halt 51 = .ok (.aconst_null, 1) := by decide +kernel
theorem dX7_halt_52 : decode cX7_halt 52 = .ok (.putfield 101, 3) := by decide +kernel
theorem dX7_halt_55 : decode cX7_halt 55 = .ok (.aload_n 0, 1) := by decide +kernel
theorem dX7_halt_56 : decode cX7_halt 56 = .ok (.getfield 30, 3) := by decide +kernel
theorem dX7_halt_59 : decode cX7_halt 59 = .ok (.iconst 1, 1) := by decide +kernel
theorem dX7_halt_60 : decode cX7_halt 60 = .ok (.putfield 216, 3) := by decide +kernel
theorem dX7_halt_63 : decode cX7_halt 63 = .ok (.aload_n 0, 1) := by decide +kernel
theorem dX7_halt_64 : decode cX7_halt 64 = .ok (.getfield 37, 3) := by decide +kernel
theorem dX7_halt_67 : decode cX7_halt 67 = .ok (.aload_n 0, 1) := by decide +kernel
theorem dX7_halt_68 : decode cX7_halt 68 = .ok (.getfield 30, 3) := by decide +kernel
theorem dX7_halt_71 : decode cX7_halt 71 = .ok (.invokevirtual 219, 3) := by decide +kernel
theorem dX7_halt_74 : decode cX7_halt 74 = .ok (.aload_n 1, 1) := by decide +kernel
theorem dX7_halt_75 : decode cX7_halt 75 = .ok (.aload_n 2, 1) := by decide +kernel
theorem dX7_halt_76 : decode cX7_halt 76 = .ok (.invokevirtual 223, 3) := by decide +kernel
theorem dX7_halt_79 : decode cX7_halt 79 = .ok (.ireturn, 1) := by decide +kernel
theorem dX7_appeal_0 : decode cX7_appeal 0 = .ok (.iload_n 1, 1) := by decide +kernel
theorem dX7_appeal_1 : decode cX7_appeal 1 = .ok (.invokestatic 144, 3) := by decide +kernel
theorem dX7_appeal_4 : decode cX7_appeal 4 = .ok (.ifCond .ne 13, 3) := by decide +kernel
theorem dX7_appeal_7 : decode cX7_appeal 7 = .ok (.new 74, 3) := by decide +kernel
theorem dX7_appeal_10 : decode cX7_appeal 10 = .ok (.dup, 1) := by decide +kernel
theorem dX7_appeal_11 : decode cX7_appeal 11 = .ok (.ldc 179, 2) := by decide +kernel
theorem dX7_appeal_13 : decode cX7_appeal 13 = .ok (.invokespecial 78, 3) := by decide +kernel
theorem dX7_appeal_16 : decode cX7_appeal 16 = .ok (.athrow, 1) := by decide +kernel
theorem dX7_appeal_17 : decode cX7_appeal 17 = .ok (.iload_n 2, 1) := by decide +kernel
theorem dX7_appeal_18 : decode cX7_appeal 18 = .ok (.invokestatic 198, 3) := by decide +kernel
theorem dX7_appeal_21 : decode cX7_appeal 21 = .ok (.ifCond .ne 13, 3) := by decide +kernel
theorem dX7_appeal_24 : decode cX7_appeal 24 = .ok (.new 93, 3) := by decide +kernel
theorem dX7_appeal_27 : decode cX7_appeal 27 = .ok (.dup, 1) := by decide +kernel
theorem dX7_appeal_28 : decode cX7_appeal 28 = .ok (.ldc 227, 2) := by decide +kernel
theorem dX7_appeal_30 : decode cX7_appeal 30 = .ok (.invokespecial 97, 3) := by decide +kernel
theorem dX7_appeal_33 : decode cX7_appeal 33 = .ok (.athrow, 1) := by decide +kernel
theorem dX7_appeal_34 : decode cX7_appeal 34 = .ok (.aload_n 0, 1) := by decide +kernel
theorem dX7_appeal_35 : decode cX7_appeal 35 = .ok (.getfield 30, 3) := by decide +kernel
theorem dX7_appeal_38 : decode cX7_appeal 38 = .ok (.getfield 149, 3) := by decide +kernel
theorem dX7_appeal_41 : decode cX7_appeal 41 = .ok (.astore_n 3, 1) := by decide +kernel
theorem dX7_appeal_42 : decode cX7_appeal 42 = .ok (.aload_n 3, 1) := by decide +kernel
theorem dX7_appeal_43 : decode cX7_appeal 43 = .ok (.ifnull 23, 3) := by decide +kernel
theorem dX7_appeal_46 : decode cX7_appeal 46 = .ok (.aload_n 0, 1) := by decide +kernel
theorem dX7_appeal_47 : decode cX7_appeal 47 = .ok (.getfield 30, 3) := by decide +kernel
theorem dX7_appeal_50 : decode cX7_appeal 50 = .ok (.getfield 101, 3) := by decide +kernel
theorem dX7_appeal_53 : decode cX7_appeal 53 = .ok (.ifnonnull 13, 3) := by decide +kernel
theorem dX7_appeal_56 : decode cX7_appeal 56 = .ok (.aload_n 0, 1) := by decide +kernel
theorem dX7_appeal_57 : decode cX7_appeal 57 = .ok (.getfield 30, 3) := by decide +kernel
theorem dX7_appeal_60 : decode cX7_appeal 60 = .ok (.getfield 216, 3) := by decide +kernel
theorem dX7_appeal_63 : decode cX7_appeal 63 = .ok (.ifCond .ne 13, 3) := by decide +kernel
theorem dX7_appeal_66 : decode cX7_appeal 66 = .ok (.new 60, 3) := by decide +kernel
theorem dX7_appeal_69 : decode cX7_appeal 69 = .ok (.dup, 1) := by decide +kernel
theorem dX7_appeal_70 : decode cX7_appeal 70 = .ok (.ldc 229, 2) := by decide +kernel
theorem dX7_appeal_72 : decode cX7_appeal 72 = .ok (.invokespecial 64, 3) := by decide +kernel
theorem dX7_appeal_75 : decode cX7_appeal 75 = .ok (.athrow, 1) := by decide +kernel
theorem dX7_appeal_76 : decode cX7_appeal 76 = .ok (.aload_n 3, 1) := by decide +kernel
theorem dX7_appeal_77 : decode cX7_appeal 77 = .ok (.aload_n 3, 1) := by decide +kernel
theorem dX7_appeal_78 : decode cX7_appeal 78 = .ok (.getfield 141, 3) := by decide +kernel
theorem dX7_appeal_81 : decode cX7_appeal 81 = .ok (.iconst 1, 1) := by decide +kernel
theorem dX7_appeal_82 : decode cX7_appeal 82 = .ok (.isub, 1) := by decide +kernel
theorem dX7_appeal_83 : decode cX7_appeal 83 = .ok (.invokevirtual 231, 3) := by decide +kernel
theorem dX7_appeal_86 : decode cX7_appeal 86 = .ok (.astore 4, 2) := by decide +kernel
theorem dX7_appeal_88 : decode cX7_appeal 88 = .ok (.aload 4, 2) := by decide +kernel
theorem dX7_appeal_90 : decode cX7_appeal 90 = .ok (.ifnull 11, 3) := by decide +kernel
theorem dX7_appeal_93 : decode cX7_appeal 93 = .ok (.aload_n 3, 1) := by decide +kernel
theorem dX7_appeal_94 : decode cX7_appeal 94 = .ok (.iload_n 1, 1) := by decide +kernel
theorem dX7_appeal_95 : decode cX7_appeal 95 = .ok (.invokevirtual 235, 3) := by decide +kernel
theorem dX7_appeal_98 : decode cX7_appeal 98 = .ok (.ifCond .ne 13, 3) := by decide +kernel
theorem dX7_appeal_101 : decode cX7_appeal 101 = .ok (.new 60, 3) := by decide +kernel
theorem dX7_appeal_104 : decode cX7_appeal 104 = .ok (.dup, 1) := by decide +kernel
theorem dX7_appeal_105 : decode cX7_appeal 105 = .ok (.ldc 238, 2) := by decide +kernel
theorem dX7_appeal_107 : decode cX7_appeal 107 = .ok (.invokespecial 64, 3) := by decide +kernel
theorem dX7_appeal_110 : decode cX7_appeal 110 = .ok (.athrow, 1) := by decide +kernel
theorem dX7_appeal_111 : decode cX7_appeal 111 = .ok (.aload_n 3, 1) := by decide +kernel
theorem dX7_appeal_112 : decode cX7_appeal 112 = .ok (.aload 4, 2) := by decide +kernel
theorem dX7_appeal_114 : decode cX7_appeal 114 = .ok (.invokevirtual 223, 3) := by decide +kernel
theorem dX7_appeal_117 : decode cX7_appeal 117 = .ok (.istore 5, 2) := by decide +kernel
theorem dX7_appeal_119 : decode cX7_appeal 119 = .ok (.aload 4, 2) := by decide +kernel
theorem dX7_appeal_121 : decode cX7_appeal 121 = .ok (.iload_n 2, 1) := by decide +kernel
theorem dX7_appeal_122 : decode cX7_appeal 122 = .ok (.invokevirtual 240, 3) := by decide +kernel
theorem dX7_appeal_125 : decode cX7_appeal 125 = .ok (.aload_n 3, 1) := by decide +kernel
theorem dX7_appeal_126 : decode cX7_appeal 126 = .ok (.aload 4, 2) := by decide +kernel
theorem dX7_appeal_128 : decode cX7_appeal 128 = .ok (.invokevirtual 223, 3) := by decide +kernel
theorem dX7_appeal_131 : decode cX7_appeal 131 = .ok (.istore 6, 2) := by decide +kernel
theorem dX7_appeal_133 : decode cX7_appeal 133 = .ok (.iload 6, 2) := by decide +kernel
theorem dX7_appeal_135 : decode cX7_appeal 135 = .ok (.iload 5, 2) := by decide +kernel
theorem dX7_appeal_137 : decode cX7_appeal 137 = .ok (.if_icmp .ne 8, 3) := by decide +kernel
theorem dX7_appeal_140 : decode cX7_appeal 140 = .ok (.aload_n 3, 1) := by decide +kernel
theorem dX7_appeal_141 : decode cX7_appeal 141 = .ok (.iload_n 1, 1) := by decide +kernel
theorem dX7_appeal_142 : decode cX7_appeal 142 = .ok (.invokevirtual 243, 3) := by decide +kernel
theorem dX7_appeal_145 : decode cX7_appeal 145 = .ok (.aload_n 3, 1) := by decide +kernel
theorem dX7_appeal_146 : decode cX7_appeal 146 = .ok (.invokevirtual 246, 3) := by decide +kernel
theorem dX7_appeal_149 : decode cX7_appeal 149 = .ok (.aload_n 0, 1) := by decide +kernel
theorem dX7_appeal_150 : decode cX7_appeal 150 = .ok (.getfield 37, 3) := by decide +kernel
theorem dX7_appeal_153 : decode cX7_appeal 153 = .ok (.aload_n 0, 1) := by decide +kernel
theorem dX7_appeal_154 : decode cX7_appeal 154 = .ok (.getfield 30, 3) := by decide +kernel
theorem dX7_appeal_157 : decode cX7_appeal 157 = .ok (.invokevirtual 219, 3) := by decide +kernel
theorem dX7_appeal_160 : decode cX7_appeal 160 = .ok (.iload 6, 2) := by decide +kernel
theorem dX7_appeal_162 : decode cX7_appeal 162 = .ok (.ireturn, 1) := by decide +kernel
theorem dX7_piste_0 : decode cX7_piste 0 = .ok (.aload_n 0, 1) := by decide +kernel
theorem dX7_piste_1 : decode cX7_piste 1 = .ok (.getfield 30, 3) := by decide +kernel
theorem dX7_piste_4 : decode cX7_piste 4 = .ok (.getfield 249, 3) := by decide +kernel
theorem dX7_piste_7 : decode cX7_piste 7 = .ok (.ireturn, 1) := by decide +kernel
theorem dX7_isFencing_0 : decode cX7_isFencing 0 = .ok (.aload_n 0, 1) := by decide +kernel
theorem dX7_isFencing_1 : decode cX7_isFencing 1 = .ok (.getfield 30, 3) := by decide +kernel
theorem dX7_isFencing_4 : decode cX7_isFencing 4 = .ok (.getfield 101, 3) := by decide +kernel
theorem dX7_isFencing_7 : decode cX7_isFencing 7 = .ok (.ifnull 7, 3) := by decide +kernel
theorem dX7_isFencing_10 : decode cX7_isFencing 10 = .ok (.iconst 1, 1) := by decide +kernel
theorem dX7_isFencing_11 : decode cX7_isFencing 11 = .ok (.goto 4, 3) := by decide +kernel
theorem dX7_isFencing_14 : decode cX7_isFencing 14 = .ok (.iconst 0, 1) := by decide +kernel
theorem dX7_isFencing_15 : decode cX7_isFencing 15 = .ok (.ireturn, 1) := by decide +kernel
theorem dX7_weaponOf_0 : decode cX7_weaponOf 0 = .ok (.iload_n 1, 1) := by decide +kernel
theorem dX7_weaponOf_1 : decode cX7_weaponOf 1 = .ok (.invokestatic 144, 3) := by decide +kernel
theorem dX7_weaponOf_4 : decode cX7_weaponOf 4 = .ok (.ifCond .ne 13, 3) := by decide +kernel
theorem dX7_weaponOf_7 : decode cX7_weaponOf 7 = .ok (.new 74, 3) := by decide +kernel
theorem dX7_weaponOf_10 : decode cX7_weaponOf 10 = .ok (.dup, 1) := by decide +kernel
theorem dX7_weaponOf_11 : decode cX7_weaponOf 11 = .ok (.ldc 179, 2) := by decide +kernel
theorem dX7_weaponOf_13 : decode cX7_weaponOf 13 = .ok (.invokespecial 78, 3) := by decide +kernel
theorem dX7_weaponOf_16 : decode cX7_weaponOf 16 = .ok (.athrow, 1) := by decide +kernel
theorem dX7_weaponOf_17 : decode cX7_weaponOf 17 = .ok (.aload_n 0, 1) := by decide +kernel
theorem dX7_weaponOf_18 : decode cX7_weaponOf 18 = .ok (.getfield 30, 3) := by decide +kernel
theorem dX7_weaponOf_21 : decode cX7_weaponOf 21 = .ok (.iload_n 1, 1) := by decide +kernel
theorem dX7_weaponOf_22 : decode cX7_weaponOf 22 = .ok (.invokevirtual 160, 3) := by decide +kernel
theorem dX7_weaponOf_25 : decode cX7_weaponOf 25 = .ok (.ireturn, 1) := by decide +kernel
theorem dX7_fencerOf_0 : decode cX7_fencerOf 0 = .ok (.aload_n 0, 1) := by decide +kernel
theorem dX7_fencerOf_1 : decode cX7_fencerOf 1 = .ok (.iload_n 1, 1) := by decide +kernel
theorem dX7_fencerOf_2 : decode cX7_fencerOf 2 = .ok (.invokevirtual 114, 3) := by decide +kernel
theorem dX7_fencerOf_5 : decode cX7_fencerOf 5 = .ok (.astore_n 3, 1) := by decide +kernel
theorem dX7_fencerOf_6 : decode cX7_fencerOf 6 = .ok (.aload_n 3, 1) := by decide +kernel
theorem dX7_fencerOf_7 : decode cX7_fencerOf 7 = .ok (.ifnull 10, 3) := by decide +kernel
theorem dX7_fencerOf_10 : decode cX7_fencerOf 10 = .ok (.iload_n 2, 1) := by decide +kernel
theorem dX7_fencerOf_11 : decode cX7_fencerOf 11 = .ok (.invokestatic 144, 3) := by decide +kernel
theorem dX7_fencerOf_14 : decode cX7_fencerOf 14 = .ok (.ifCond .ne 13, 3) := by decide +kernel
theorem dX7_fencerOf_17 : decode cX7_fencerOf 17 = .ok (.new 74, 3) := by decide +kernel
theorem dX7_fencerOf_20 : decode cX7_fencerOf 20 = .ok (.dup, 1) := by decide +kernel
theorem dX7_fencerOf_21 : decode cX7_fencerOf 21 = .ok (.ldc 252, 2) := by decide +kernel
theorem dX7_fencerOf_23 : decode cX7_fencerOf 23 = .ok (.invokespecial 78, 3) := by decide +kernel
theorem dX7_fencerOf_26 : decode cX7_fencerOf 26 = .ok (.athrow, 1) := by decide +kernel
theorem dX7_fencerOf_27 : decode cX7_fencerOf 27 = .ok (.aload_n 3, 1) := by decide +kernel
theorem dX7_fencerOf_28 : decode cX7_fencerOf 28 = .ok (.iload_n 2, 1) := by decide +kernel
theorem dX7_fencerOf_29 : decode cX7_fencerOf 29 = .ok (.invokevirtual 155, 3) := by decide +kernel
theorem dX7_fencerOf_32 : decode cX7_fencerOf 32 = .ok (.ireturn, 1) := by decide +kernel
theorem dX7_score_0 : decode cX7_score 0 = .ok (.aload_n 0, 1) := by decide +kernel
theorem dX7_score_1 : decode cX7_score 1 = .ok (.iload_n 1, 1) := by decide +kernel
theorem dX7_score_2 : decode cX7_score 2 = .ok (.invokevirtual 114, 3) := by decide +kernel
theorem dX7_score_5 : decode cX7_score 5 = .ok (.astore_n 3, 1) := by decide +kernel
theorem dX7_score_6 : decode cX7_score 6 = .ok (.aload_n 3, 1) := by decide +kernel
theorem dX7_score_7 : decode cX7_score 7 = .ok (.ifnull 10, 3) := by decide +kernel
theorem dX7_score_10 : decode cX7_score 10 = .ok (.iload_n 2, 1) := by decide +kernel
theorem dX7_score_11 : decode cX7_score 11 = .ok (.invokestatic 144, 3) := by decide +kernel
theorem dX7_score_14 : decode cX7_score 14 = .ok (.ifCond .ne 13, 3) := by decide +kernel
theorem dX7_score_17 : decode cX7_score 17 = .ok (.new 74, 3) := by decide +kernel
theorem dX7_score_20 : decode cX7_score 20 = .ok (.dup, 1) := by decide +kernel
theorem dX7_score_21 : decode cX7_score 21 = .ok (.ldc 252, 2) := by decide +kernel
theorem dX7_score_23 : decode cX7_score 23 = .ok (.invokespecial 78, 3) := by decide +kernel
theorem dX7_score_26 : decode cX7_score 26 = .ok (.athrow, 1) := by decide +kernel
theorem dX7_score_27 : decode cX7_score 27 = .ok (.aload_n 3, 1) := by decide +kernel
theorem dX7_score_28 : decode cX7_score 28 = .ok (.getfield 254, 3) := by decide +kernel
theorem dX7_score_31 : decode cX7_score 31 = .ok (.iload_n 2, 1) := by decide +kernel
theorem dX7_score_32 : decode cX7_score 32 = .ok (.invokevirtual 257, 3) := by decide +kernel
theorem dX7_score_35 : decode cX7_score 35 = .ok (.ireturn, 1) := by decide +kernel
theorem dX7_scoreAnew_0 : decode cX7_scoreAnew 0 = .ok (.aload_n 0, 1) := by decide +kernel
theorem dX7_scoreAnew_1 : decode cX7_scoreAnew 1 = .ok (.iload_n 1, 1) := by decide +kernel
theorem dX7_scoreAnew_2 : decode cX7_scoreAnew 2 = .ok (.invokevirtual 114, 3) := by decide +kernel
theorem dX7_scoreAnew_5 : decode cX7_scoreAnew 5 = .ok (.astore_n 3, 1) := by decide +kernel
theorem dX7_scoreAnew_6 : decode cX7_scoreAnew 6 = .ok (.aload_n 3, 1) := by decide +kernel
theorem dX7_scoreAnew_7 : decode cX7_scoreAnew 7 = .ok (.ifnull 10, 3) := by decide +kernel
theorem dX7_scoreAnew_10 : decode cX7_scoreAnew 10 = .ok (.iload_n 2, 1) := by decide +kernel
theorem dX7_scoreAnew_11 : decode cX7_scoreAnew 11 = .ok (.invokestatic 144, 3) := by decide +kernel
theorem dX7_scoreAnew_14 : decode cX7_scoreAnew 14 = .ok (.ifCond .ne 13, 3) := by decide +kernel
theorem dX7_scoreAnew_17 : decode cX7_scoreAnew 17 = .ok (.new 74, 3) := by decide +kernel
theorem dX7_scoreAnew_20 : decode cX7_scoreAnew 20 = .ok (.dup, 1) := by decide +kernel
theorem dX7_scoreAnew_21 : decode cX7_scoreAnew 21 = .ok (.ldc 252, 2) := by decide +kernel
theorem dX7_scoreAnew_23 : decode cX7_scoreAnew 23 = .ok (.invokespecial 78, 3) := by decide +kernel
theorem dX7_scoreAnew_26 : decode cX7_scoreAnew 26 = .ok (.athrow, 1) := by decide +kernel
theorem dX7_scoreAnew_27 : decode cX7_scoreAnew 27 = .ok (.aload_n 3, 1) := by decide +kernel
theorem dX7_scoreAnew_28 : decode cX7_scoreAnew 28 = .ok (.aload_n 0, 1) := by decide +kernel
theorem dX7_scoreAnew_29 : decode cX7_scoreAnew 29 = .ok (.getfield 44, 3) := by decide +kernel
theorem dX7_scoreAnew_32 : decode cX7_scoreAnew 32 = .ok (.invokevirtual 260, 3) := by decide +kernel
theorem dX7_scoreAnew_35 : decode cX7_scoreAnew 35 = .ok (.aload_n 0, 1) := by decide +kernel
theorem dX7_scoreAnew_36 : decode cX7_scoreAnew 36 = .ok (.getfield 44, 3) := by decide +kernel
theorem dX7_scoreAnew_39 : decode cX7_scoreAnew 39 = .ok (.iload_n 2, 1) := by decide +kernel
theorem dX7_scoreAnew_40 : decode cX7_scoreAnew 40 = .ok (.invokevirtual 257, 3) := by decide +kernel
theorem dX7_scoreAnew_43 : decode cX7_scoreAnew 43 = .ok (.ireturn, 1) := by decide +kernel
theorem dX7_winner_0 : decode cX7_winner 0 = .ok (.aload_n 0, 1) := by decide +kernel
theorem dX7_winner_1 : decode cX7_winner 1 = .ok (.iload_n 1, 1) := by decide +kernel
theorem dX7_winner_2 : decode cX7_winner 2 = .ok (.invokevirtual 114, 3) := by decide +kernel
theorem dX7_winner_5 : decode cX7_winner 5 = .ok (.astore_n 2, 1) := by decide +kernel
theorem dX7_winner_6 : decode cX7_winner 6 = .ok (.aload_n 2, 1) := by decide +kernel
theorem dX7_winner_7 : decode cX7_winner 7 = .ok (.ifnonnull 14, 3) := by decide +kernel
theorem dX7_winner_10 : decode cX7_winner 10 = .ok (.new 74, 3) := by decide +kernel
theorem dX7_winner_13 : decode cX7_winner 13 = .ok (.dup, 1) := by decide +kernel
theorem dX7_winner_14 : decode cX7_winner 14 = .ok (.ldc_w 264, 3) := by decide +kernel
theorem dX7_winner_17 : decode cX7_winner 17 = .ok (.invokespecial 78, 3) := by decide +kernel
theorem dX7_winner_20 : decode cX7_winner 20 = .ok (.athrow, 1) := by decide +kernel
theorem dX7_winner_21 : decode cX7_winner 21 = .ok (.aload_n 2, 1) := by decide +kernel
theorem dX7_winner_22 : decode cX7_winner 22 = .ok (.getfield 266, 3) := by decide +kernel
theorem dX7_winner_25 : decode cX7_winner 25 = .ok (.ifCond .eq 8, 3) := by decide +kernel
theorem dX7_winner_28 : decode cX7_winner 28 = .ok (.aload_n 2, 1) := by decide +kernel
theorem dX7_winner_29 : decode cX7_winner 29 = .ok (.invokevirtual 269, 3) := by decide +kernel
theorem dX7_winner_32 : decode cX7_winner 32 = .ok (.ireturn, 1) := by decide +kernel
theorem dX7_winner_33 : decode cX7_winner 33 = .ok (.aload_n 0, 1) := by decide +kernel
theorem dX7_winner_34 : decode cX7_winner 34 = .ok (.getfield 37, 3) := by decide +kernel
theorem dX7_winner_37 : decode cX7_winner 37 = .ok (.iload_n 1, 1) := by decide +kernel
theorem dX7_winner_38 : decode cX7_winner 38 = .ok (.bipush 100, 2) := by decide +kernel
theorem dX7_winner_40 : decode cX7_winner 40 = .ok (.isub, 1) := by decide +kernel
theorem dX7_winner_41 : decode cX7_winner 41 = .ok (.invokevirtual 272, 3) := by decide +kernel
theorem dX7_winner_44 : decode cX7_winner 44 = .ok (.ireturn, 1) := by decide +kernel
theorem dX7_phrases_0 : decode cX7_phrases 0 = .ok (.aload_n 0, 1) := by decide +kernel
theorem dX7_phrases_1 : decode cX7_phrases 1 = .ok (.iload_n 1, 1) := by decide +kernel
theorem dX7_phrases_2 : decode cX7_phrases 2 = .ok (.invokevirtual 114, 3) := by decide +kernel
theorem dX7_phrases_5 : decode cX7_phrases 5 = .ok (.astore_n 2, 1) := by decide +kernel
theorem dX7_phrases_6 : decode cX7_phrases 6 = .ok (.aload_n 2, 1) := by decide +kernel
theorem dX7_phrases_7 : decode cX7_phrases 7 = .ok (.ifnonnull 14, 3) := by decide +kernel
theorem dX7_phrases_10 : decode cX7_phrases 10 = .ok (.new 74, 3) := by decide +kernel
theorem dX7_phrases_13 : decode cX7_phrases 13 = .ok (.dup, 1) := by decide +kernel
theorem dX7_phrases_14 : decode cX7_phrases 14 = .ok (.ldc_w 264, 3) := by decide +kernel
theorem dX7_phrases_17 : decode cX7_phrases 17 = .ok (.invokespecial 78, 3) := by decide +kernel
theorem dX7_phrases_20 : decode cX7_phrases 20 = .ok (.athrow, 1) := by decide +kernel
theorem dX7_phrases_21 : decode cX7_phrases 21 = .ok (.aload_n 2, 1) := by decide +kernel
theorem dX7_phrases_22 : decode cX7_phrases 22 = .ok (.getfield 141, 3) := by decide +kernel
theorem dX7_phrases_25 : decode cX7_phrases 25 = .ok (.ireturn, 1) := by decide +kernel
theorem dX7_touches_0 : decode cX7_touches 0 = .ok (.aload_n 0, 1) := by decide +kernel
theorem dX7_touches_1 : decode cX7_touches 1 = .ok (.iload_n 1, 1) := by decide +kernel
theorem dX7_touches_2 : decode cX7_touches 2 = .ok (.invokevirtual 114, 3) := by decide +kernel
theorem dX7_touches_5 : decode cX7_touches 5 = .ok (.astore_n 3, 1) := by decide +kernel
theorem dX7_touches_6 : decode cX7_touches 6 = .ok (.aload_n 3, 1) := by decide +kernel
theorem dX7_touches_7 : decode cX7_touches 7 = .ok (.ifnonnull 14, 3) := by decide +kernel
theorem dX7_touches_10 : decode cX7_touches 10 = .ok (.new 74, 3) := by decide +kernel
theorem dX7_touches_13 : decode cX7_touches 13 = .ok (.dup, 1) := by decide +kernel
theorem dX7_touches_14 : decode cX7_touches 14 = .ok (.ldc_w 264, 3) := by decide +kernel
theorem dX7_touches_17 : decode cX7_touches 17 = .ok (.invokespecial 78, 3) := by decide +kernel
theorem dX7_touches_20 : decode cX7_touches 20 = .ok (.athrow, 1) := by decide +kernel
theorem dX7_touches_21 : decode cX7_touches 21 = .ok (.aload_n 3, 1) := by decide +kernel
theorem dX7_touches_22 : decode cX7_touches 22 = .ok (.iload_n 2, 1) := by decide +kernel
theorem dX7_touches_23 : decode cX7_touches 23 = .ok (.invokevirtual 231, 3) := by decide +kernel
theorem dX7_touches_26 : decode cX7_touches 26 = .ok (.astore 4, 2) := by decide +kernel
theorem dX7_touches_28 : decode cX7_touches 28 = .ok (.aload 4, 2) := by decide +kernel
theorem dX7_touches_30 : decode cX7_touches 30 = .ok (.ifnonnull 14, 3) := by decide +kernel
theorem dX7_touches_33 : decode cX7_touches 33 = .ok (.new 74, 3) := by decide +kernel
theorem dX7_touches_36 : decode cX7_touches 36 = .ok (.dup, 1) := by decide +kernel
theorem dX7_touches_37 : decode cX7_touches 37 = .ok (.ldc_w 275, 3) := by decide +kernel
theorem dX7_touches_40 : decode cX7_touches 40 = .ok (.invokespecial 78, 3) := by decide +kernel
theorem dX7_touches_43 : decode cX7_touches 43 = .ok (.athrow, 1) := by decide +kernel
theorem dX7_touches_44 : decode cX7_touches 44 = .ok (.aload_n 3, 1) := by decide +kernel
theorem dX7_touches_45 : decode cX7_touches 45 = .ok (.aload 4, 2) := by decide +kernel
theorem dX7_touches_47 : decode cX7_touches 47 = .ok (.invokevirtual 223, 3) := by decide +kernel
theorem dX7_touches_50 : decode cX7_touches 50 = .ok (.ireturn, 1) := by decide +kernel
theorem dX7_appeals_0 : decode cX7_appeals 0 = .ok (.aload_n 0, 1) := by decide +kernel
theorem dX7_appeals_1 : decode cX7_appeals 1 = .ok (.iload_n 1, 1) := by decide +kernel
theorem dX7_appeals_2 : decode cX7_appeals 2 = .ok (.invokevirtual 114, 3) := by decide +kernel
theorem dX7_appeals_5 : decode cX7_appeals 5 = .ok (.astore_n 3, 1) := by decide +kernel
theorem dX7_appeals_6 : decode cX7_appeals 6 = .ok (.aload_n 3, 1) := by decide +kernel
theorem dX7_appeals_7 : decode cX7_appeals 7 = .ok (.ifnull 10, 3) := by decide +kernel
theorem dX7_appeals_10 : decode cX7_appeals 10 = .ok (.iload_n 2, 1) := by decide +kernel
theorem dX7_appeals_11 : decode cX7_appeals 11 = .ok (.invokestatic 144, 3) := by decide +kernel
theorem dX7_appeals_14 : decode cX7_appeals 14 = .ok (.ifCond .ne 13, 3) := by decide +kernel
theorem dX7_appeals_17 : decode cX7_appeals 17 = .ok (.new 74, 3) := by decide +kernel
theorem dX7_appeals_20 : decode cX7_appeals 20 = .ok (.dup, 1) := by decide +kernel
theorem dX7_appeals_21 : decode cX7_appeals 21 = .ok (.ldc 252, 2) := by decide +kernel
theorem dX7_appeals_23 : decode cX7_appeals 23 = .ok (.invokespecial 78, 3) := by decide +kernel
theorem dX7_appeals_26 : decode cX7_appeals 26 = .ok (.athrow, 1) := by decide +kernel
theorem dX7_appeals_27 : decode cX7_appeals 27 = .ok (.aload_n 3, 1) := by decide +kernel
theorem dX7_appeals_28 : decode cX7_appeals 28 = .ok (.iload_n 2, 1) := by decide +kernel
theorem dX7_appeals_29 : decode cX7_appeals 29 = .ok (.invokevirtual 235, 3) := by decide +kernel
theorem dX7_appeals_32 : decode cX7_appeals 32 = .ok (.ireturn, 1) := by decide +kernel
theorem dX7_drawPools_0 : decode cX7_drawPools 0 = .ok (.iload_n 1, 1) := by decide +kernel
theorem dX7_drawPools_1 : decode cX7_drawPools 1 = .ok (.iconst 1, 1) := by decide +kernel
theorem dX7_drawPools_2 : decode cX7_drawPools 2 = .ok (.if_icmp .lt 8, 3) := by decide +kernel
theorem dX7_drawPools_5 : decode cX7_drawPools 5 = .ok (.iload_n 1, 1) := by decide +kernel
theorem dX7_drawPools_6 : decode cX7_drawPools 6 = .ok (.iconst 4, 1) := by decide +kernel
theorem dX7_drawPools_7 : decode cX7_drawPools 7 = .ok (.if_icmp .le 14, 3) := by decide +kernel
theorem dX7_drawPools_10 : decode cX7_drawPools 10 = .ok (.new 93, 3) := by decide +kernel
theorem dX7_drawPools_13 : decode cX7_drawPools 13 = .ok (.dup, 1) := by decide +kernel
theorem dX7_drawPools_14 : decode cX7_drawPools 14 = .ok (.ldc_w 277, 3) := by decide +kernel
theorem dX7_drawPools_17 : decode cX7_drawPools 17 = .ok (.invokespecial 97, 3) := by decide +kernel
theorem dX7_drawPools_20 : decode cX7_drawPools 20 = .ok (.athrow, 1) := by decide +kernel
theorem dX7_drawPools_21 : decode cX7_drawPools 21 = .ok (.aload_n 0, 1) := by decide +kernel
theorem dX7_drawPools_22 : decode cX7_drawPools 22 = .ok (.invokevirtual 56, 3) := by decide +kernel
theorem dX7_drawPools_25 : decode cX7_drawPools 25 = .ok (.ifCond .ne 13, 3) := by decide +kernel
theorem dX7_drawPools_28 : decode cX7_drawPools 28 = .ok (.aload_n 0, 1) := by decide +kernel
theorem dX7_drawPools_29 : decode cX7_drawPools 29 = .ok (.getfield 52, 3) := by decide +kernel
theorem dX7_drawPools_32 : decode cX7_drawPools 32 = .ok (.iconst 2, 1) := by decide +kernel
theorem dX7_drawPools_33 : decode cX7_drawPools 33 = .ok (.iload_n 1, 1) := by decide +kernel
theorem dX7_drawPools_34 : decode cX7_drawPools 34 = .ok (.imul, 1) := by decide +kernel
theorem dX7_drawPools_35 : decode cX7_drawPools 35 = .ok (.if_icmp .ge 14, 3) := by decide +kernel
theorem dX7_drawPools_38 : decode cX7_drawPools 38 = .ok (.new 60, 3) := by decide +kernel
theorem dX7_drawPools_41 : decode cX7_drawPools 41 = .ok (.dup, 1) := by decide +kernel
theorem dX7_drawPools_42 : decode cX7_drawPools 42 = .ok (.ldc_w 279, 3) := by decide +kernel
theorem dX7_drawPools_45 : decode cX7_drawPools 45 = .ok (.invokespecial 64, 3) := by decide +kernel
theorem dX7_drawPools_48 : decode cX7_drawPools 48 = .ok (.athrow, 1) := by decide +kernel
theorem dX7_drawPools_49 : decode cX7_drawPools 49 = .ok (.iconst 0, 1) := by decide +kernel
theorem dX7_drawPools_50 : decode cX7_drawPools 50 = .ok (.istore_n 2, 1) := by decide +kernel
theorem dX7_drawPools_51 : decode cX7_drawPools 51 = .ok (.iload_n 2, 1) := by decide +kernel
theorem dX7_drawPools_52 : decode cX7_drawPools 52 = .ok (.iload_n 1, 1) := by decide +kernel
theorem dX7_drawPools_53 : decode cX7_drawPools 53 = .ok (.if_icmp .ge 15, 3) := by decide +kernel
theorem dX7_drawPools_56 : decode cX7_drawPools 56 = .ok (.aload_n 0, 1) := by decide +kernel
theorem dX7_drawPools_57 : decode cX7_drawPools 57 = .ok (.iload_n 2, 1) := by decide +kernel
theorem dX7_drawPools_58 : decode cX7_drawPools 58 = .ok (.iload_n 1, 1) := by decide +kernel
theorem dX7_drawPools_59 : decode cX7_drawPools 59 = .ok (.invokevirtual 281, 3) := by decide +kernel
theorem dX7_drawPools_62 : decode cX7_drawPools 62 = .ok (.iinc 2 1, 3) := by decide +kernel
theorem dX7_drawPools_65 : decode cX7_drawPools 65 = .ok (.goto (-14), 3) := by decide +kernel
theorem dX7_drawPools_68 : decode cX7_drawPools 68 = .ok (.aload_n 0, 1) := by decide +kernel
theorem dX7_drawPools_69 : decode cX7_drawPools 69 = .ok (.getfield 284, 3) := by decide +kernel
theorem dX7_drawPools_72 : decode cX7_drawPools 72 = .ok (.ireturn, 1) := by decide +kernel
theorem dX7_poolBouts_0 : decode cX7_poolBouts 0 = .ok (.aload_n 0, 1) := by decide +kernel
theorem dX7_poolBouts_1 : decode cX7_poolBouts 1 = .ok (.getfield 284, 3) := by decide +kernel
theorem dX7_poolBouts_4 : decode cX7_poolBouts 4 = .ok (.ireturn, 1) := by decide +kernel
theorem dX7_won_0 : decode cX7_won 0 = .ok (.aload_n 0, 1) := by decide +kernel
theorem dX7_won_1 : decode cX7_won 1 = .ok (.iload_n 1, 1) := by decide +kernel
theorem dX7_won_2 : decode cX7_won 2 = .ok (.invokevirtual 70, 3) := by decide +kernel
theorem dX7_won_5 : decode cX7_won 5 = .ok (.astore_n 2, 1) := by decide +kernel
theorem dX7_won_6 : decode cX7_won 6 = .ok (.aload_n 2, 1) := by decide +kernel
theorem dX7_won_7 : decode cX7_won 7 = .ok (.ifnonnull 13, 3) := by decide +kernel
theorem dX7_won_10 : decode cX7_won 10 = .ok (.new 74, 3) := by decide +kernel
theorem dX7_won_13 : decode cX7_won 13 = .ok (.dup, 1) := by decide +kernel
theorem dX7_won_14 : decode cX7_won 14 = .ok (.ldc 76, 2) := by decide +kernel
theorem dX7_won_16 : decode cX7_won 16 = .ok (.invokespecial 78, 3) := by decide +kernel
theorem dX7_won_19 : decode cX7_won 19 = .ok (.athrow, 1) := by decide +kernel
theorem dX7_won_20 : decode cX7_won 20 = .ok (.aload_n 0, 1) := by decide +kernel
theorem dX7_won_21 : decode cX7_won 21 = .ok (.invokevirtual 287, 3) := by decide +kernel
theorem dX7_won_24 : decode cX7_won 24 = .ok (.aload_n 2, 1) := by decide +kernel
theorem dX7_won_25 : decode cX7_won 25 = .ok (.getfield 290, 3) := by decide +kernel
theorem dX7_won_28 : decode cX7_won 28 = .ok (.ireturn, 1) := by decide +kernel
theorem dX7_index_0 : decode cX7_index 0 = .ok (.aload_n 0, 1) := by decide +kernel
theorem dX7_index_1 : decode cX7_index 1 = .ok (.iload_n 1, 1) := by decide +kernel
theorem dX7_index_2 : decode cX7_index 2 = .ok (.invokevirtual 70, 3) := by decide +kernel
theorem dX7_index_5 : decode cX7_index 5 = .ok (.astore_n 2, 1) := by decide +kernel
theorem dX7_index_6 : decode cX7_index 6 = .ok (.aload_n 2, 1) := by decide +kernel
theorem dX7_index_7 : decode cX7_index 7 = .ok (.ifnonnull 13, 3) := by decide +kernel
theorem dX7_index_10 : decode cX7_index 10 = .ok (.new 74, 3) := by decide +kernel
theorem dX7_index_13 : decode cX7_index 13 = .ok (.dup, 1) := by decide +kernel
theorem dX7_index_14 : decode cX7_index 14 = .ok (.ldc 76, 2) := by decide +kernel
theorem dX7_index_16 : decode cX7_index 16 = .ok (.invokespecial 78, 3) := by decide +kernel
theorem dX7_index_19 : decode cX7_index 19 = .ok (.athrow, 1) := by decide +kernel
theorem dX7_index_20 : decode cX7_index 20 = .ok (.aload_n 0, 1) := by decide +kernel
theorem dX7_index_21 : decode cX7_index 21 = .ok (.invokevirtual 287, 3) := by decide +kernel
theorem dX7_index_24 : decode cX7_index 24 = .ok (.aload_n 2, 1) := by decide +kernel
theorem dX7_index_25 : decode cX7_index 25 = .ok (.invokevirtual 293, 3) := by decide +kernel
theorem dX7_index_28 : decode cX7_index 28 = .ok (.ireturn, 1) := by decide +kernel
theorem dX7_rankedAt_0 : decode cX7_rankedAt 0 = .ok (.iload_n 1, 1) := by decide +kernel
theorem dX7_rankedAt_1 : decode cX7_rankedAt 1 = .ok (.ifCond .lt 11, 3) := by decide +kernel
theorem dX7_rankedAt_4 : decode cX7_rankedAt 4 = .ok (.iload_n 1, 1) := by decide +kernel
theorem dX7_rankedAt_5 : decode cX7_rankedAt 5 = .ok (.aload_n 0, 1) := by decide +kernel
theorem dX7_rankedAt_6 : decode cX7_rankedAt 6 = .ok (.getfield 52, 3) := by decide +kernel
theorem dX7_rankedAt_9 : decode cX7_rankedAt 9 = .ok (.if_icmp .lt 14, 3) := by decide +kernel
theorem dX7_rankedAt_12 : decode cX7_rankedAt 12 = .ok (.new 74, 3) := by decide +kernel
theorem dX7_rankedAt_15 : decode cX7_rankedAt 15 = .ok (.dup, 1) := by decide +kernel
theorem dX7_rankedAt_16 : decode cX7_rankedAt 16 = .ok (.ldc_w 296, 3) := by decide +kernel
theorem dX7_rankedAt_19 : decode cX7_rankedAt 19 = .ok (.invokespecial 78, 3) := by decide +kernel
theorem dX7_rankedAt_22 : decode cX7_rankedAt 22 = .ok (.athrow, 1) := by decide +kernel
theorem dX7_rankedAt_23 : decode cX7_rankedAt 23 = .ok (.aload_n 0, 1) := by decide +kernel
theorem dX7_rankedAt_24 : decode cX7_rankedAt 24 = .ok (.invokevirtual 287, 3) := by decide +kernel
theorem dX7_rankedAt_27 : decode cX7_rankedAt 27 = .ok (.aload_n 0, 1) := by decide +kernel
theorem dX7_rankedAt_28 : decode cX7_rankedAt 28 = .ok (.iload_n 1, 1) := by decide +kernel
theorem dX7_rankedAt_29 : decode cX7_rankedAt 29 = .ok (.invokevirtual 298, 3) := by decide +kernel
theorem dX7_rankedAt_32 : decode cX7_rankedAt 32 = .ok (.ireturn, 1) := by decide +kernel
theorem dX7_drawTableau_0 : decode cX7_drawTableau 0 = .ok (.aload_n 0, 1) := by decide +kernel
theorem dX7_drawTableau_1 : decode cX7_drawTableau 1 = .ok (.invokevirtual 56, 3) := by decide +kernel
theorem dX7_drawTableau_4 : decode cX7_drawTableau 4 = .ok (.ifCond .eq 10, 3) := by decide +kernel
theorem dX7_drawTableau_7 : decode cX7_drawTableau 7 = .ok (.aload_n 0, 1) := by decide +kernel
theorem dX7_drawTableau_8 : decode cX7_drawTableau 8 = .ok (.invokevirtual 301, 3) := by decide +kernel
theorem dX7_drawTableau_11 : decode cX7_drawTableau 11 = .ok (.ifCond .eq 14, 3) := by decide +kernel
theorem dX7_drawTableau_14 : decode cX7_drawTableau 14 = .ok (.new 60, 3) := by decide +kernel
theorem dX7_drawTableau_17 : decode cX7_drawTableau 17 = .ok (.dup, 1) := by decide +kernel
theorem dX7_drawTableau_18 : decode cX7_drawTableau 18 = .ok (.ldc_w 304, 3) := by decide +kernel
theorem dX7_drawTableau_21 : decode cX7_drawTableau 21 = .ok (.invokespecial 64, 3) := by decide +kernel
theorem dX7_drawTableau_24 : decode cX7_drawTableau 24 = .ok (.athrow, 1) := by decide +kernel
theorem dX7_drawTableau_25 : decode cX7_drawTableau 25 = .ok (.aload_n 0, 1) := by decide +kernel
theorem dX7_drawTableau_26 : decode cX7_drawTableau 26 = .ok (.getfield 37, 3) := by decide +kernel
theorem dX7_drawTableau_29 : decode cX7_drawTableau 29 = .ok (.invokevirtual 306, 3) := by decide +kernel
theorem dX7_drawTableau_32 : decode cX7_drawTableau 32 = .ok (.ifCond .ne 13, 3) := by decide +kernel
theorem dX7_drawTableau_35 : decode cX7_drawTableau 35 = .ok (.aload_n 0, 1) := by decide +kernel
theorem dX7_drawTableau_36 : decode cX7_drawTableau 36 = .ok (.getfield 30, 3) := by decide +kernel
theorem dX7_drawTableau_39 : decode cX7_drawTableau 39 = .ok (.getfield 101, 3) := by decide +kernel
theorem dX7_drawTableau_42 : decode cX7_drawTableau 42 = .ok (.ifnull 14, 3) := by decide +kernel
theorem dX7_drawTableau_45 : decode cX7_drawTableau 45 = .ok (.new 60, 3) := by decide +kernel
theorem dX7_drawTableau_48 : decode cX7_drawTableau 48 = .ok (.dup, 1) := by decide +kernel
theorem dX7_drawTableau_49 : decode cX7_drawTableau 49 = .ok (.ldc_w 309, 3) := by decide +kernel
theorem dX7_drawTableau_52 : decode cX7_drawTableau 52 = .ok (.invokespecial 64, 3) := by decide +kernel
theorem dX7_drawTableau_55 : decode cX7_drawTableau 55 = .ok (.athrow, 1) := by decide +kernel
theorem dX7_drawTableau_56 : decode cX7_drawTableau 56 = .ok (.aload_n 0, 1) := by decide +kernel
theorem dX7_drawTableau_57 : decode cX7_drawTableau 57 = .ok (.getfield 30, 3) := by decide +kernel
theorem dX7_drawTableau_60 : decode cX7_drawTableau 60 = .ok (.invokevirtual 311, 3) := by decide +kernel
theorem dX7_drawTableau_63 : decode cX7_drawTableau 63 = .ok (.aload_n 0, 1) := by decide +kernel
theorem dX7_drawTableau_64 : decode cX7_drawTableau 64 = .ok (.getfield 37, 3) := by decide +kernel
theorem dX7_drawTableau_67 : decode cX7_drawTableau 67 = .ok (.aload_n 0, 1) := by decide +kernel
theorem dX7_drawTableau_68 : decode cX7_drawTableau 68 = .ok (.getfield 52, 3) := by decide +kernel
theorem dX7_drawTableau_71 : decode cX7_drawTableau 71 = .ok (.invokevirtual 314, 3) := by decide +kernel
theorem dX7_drawTableau_74 : decode cX7_drawTableau 74 = .ok (.aload_n 0, 1) := by decide +kernel
theorem dX7_drawTableau_75 : decode cX7_drawTableau 75 = .ok (.invokevirtual 287, 3) := by decide +kernel
theorem dX7_drawTableau_78 : decode cX7_drawTableau 78 = .ok (.iconst 0, 1) := by decide +kernel
theorem dX7_drawTableau_79 : decode cX7_drawTableau 79 = .ok (.istore_n 1, 1) := by decide +kernel
theorem dX7_drawTableau_80 : decode cX7_drawTableau 80 = .ok (.iload_n 1, 1) := by decide +kernel
theorem dX7_drawTableau_81 : decode cX7_drawTableau 81 = .ok (.aload_n 0, 1) := by decide +kernel
theorem dX7_drawTableau_82 : decode cX7_drawTableau 82 = .ok (.getfield 52, 3) := by decide +kernel
theorem dX7_drawTableau_85 : decode cX7_drawTableau 85 = .ok (.if_icmp .ge 24, 3) := by decide +kernel
theorem dX7_drawTableau_88 : decode cX7_drawTableau 88 = .ok (.aload_n 0, 1) := by decide +kernel
theorem dX7_drawTableau_89 : decode cX7_drawTableau 89 = .ok (.getfield 37, 3) := by decide +kernel
theorem dX7_drawTableau_92 : decode cX7_drawTableau 92 = .ok (.iload_n 1, 1) := by decide +kernel
theorem dX7_drawTableau_93 : decode cX7_drawTableau 93 = .ok (.iconst 1, 1) := by decide +kernel
theorem dX7_drawTableau_94 : decode cX7_drawTableau 94 = .ok (.iadd, 1) := by decide +kernel
theorem dX7_drawTableau_95 : decode cX7_drawTableau 95 = .ok (.aload_n 0, 1) := by decide +kernel
theorem dX7_drawTableau_96 : decode cX7_drawTableau 96 = .ok (.iload_n 1, 1) := by decide +kernel
theorem dX7_drawTableau_97 : decode cX7_drawTableau 97 = .ok (.invokevirtual 298, 3) := by decide +kernel
theorem dX7_drawTableau_100 : decode cX7_drawTableau 100 = .ok (.invokevirtual 317, 3) := by decide +kernel
theorem dX7_drawTableau_103 : decode cX7_drawTableau 103 = .ok (.iinc 1 1, 3) := by decide +kernel
theorem dX7_drawTableau_106 : decode cX7_drawTableau 106 = .ok (.goto (-26), 3) := by decide +kernel
theorem dX7_drawTableau_109 : decode cX7_drawTableau 109 = .ok (.aload_n 0, 1) := by decide +kernel
theorem dX7_drawTableau_110 : decode cX7_drawTableau 110 = .ok (.getfield 37, 3) := by decide +kernel
theorem dX7_drawTableau_113 : decode cX7_drawTableau 113 = .ok (.aload_n 0, 1) := by decide +kernel
theorem dX7_drawTableau_114 : decode cX7_drawTableau 114 = .ok (.getfield 30, 3) := by decide +kernel
theorem dX7_drawTableau_117 : decode cX7_drawTableau 117 = .ok (.invokevirtual 219, 3) := by decide +kernel
theorem dX7_drawTableau_120 : decode cX7_drawTableau 120 = .ok (.aload_n 0, 1) := by decide +kernel
theorem dX7_drawTableau_121 : decode cX7_drawTableau 121 = .ok (.getfield 37, 3) := by decide +kernel
theorem dX7_drawTableau_124 : decode cX7_drawTableau 124 = .ok (.getfield 320, 3) := by decide +kernel
theorem dX7_drawTableau_127 : decode cX7_drawTableau 127 = .ok (.ireturn, 1) := by decide +kernel
theorem dX7_size_0 : decode cX7_size 0 = .ok (.aload_n 0, 1) := by decide +kernel
theorem dX7_size_1 : decode cX7_size 1 = .ok (.getfield 37, 3) := by decide +kernel
theorem dX7_size_4 : decode cX7_size 4 = .ok (.getfield 320, 3) := by decide +kernel
theorem dX7_size_7 : decode cX7_size 7 = .ok (.ireturn, 1) := by decide +kernel
theorem dX7_nodeWinner_0 : decode cX7_nodeWinner 0 = .ok (.aload_n 0, 1) := by decide +kernel
theorem dX7_nodeWinner_1 : decode cX7_nodeWinner 1 = .ok (.getfield 37, 3) := by decide +kernel
theorem dX7_nodeWinner_4 : decode cX7_nodeWinner 4 = .ok (.iload_n 1, 1) := by decide +kernel
theorem dX7_nodeWinner_5 : decode cX7_nodeWinner 5 = .ok (.invokevirtual 323, 3) := by decide +kernel
theorem dX7_nodeWinner_8 : decode cX7_nodeWinner 8 = .ok (.ifCond .ne 14, 3) := by decide +kernel
theorem dX7_nodeWinner_11 : decode cX7_nodeWinner 11 = .ok (.new 74, 3) := by decide +kernel
theorem dX7_nodeWinner_14 : decode cX7_nodeWinner 14 = .ok (.dup, 1) := by decide +kernel
theorem dX7_nodeWinner_15 : decode cX7_nodeWinner 15 = .ok (.ldc_w 326, 3) := by decide +kernel
theorem dX7_nodeWinner_18 : decode cX7_nodeWinner 18 = .ok (.invokespecial 78, 3) := by decide +kernel
theorem dX7_nodeWinner_21 : decode cX7_nodeWinner 21 = .ok (.athrow, 1) := by decide +kernel
theorem dX7_nodeWinner_22 : decode cX7_nodeWinner 22 = .ok (.aload_n 0, 1) := by decide +kernel
theorem dX7_nodeWinner_23 : decode cX7_nodeWinner 23 = .ok (.getfield 37, 3) := by decide +kernel
theorem dX7_nodeWinner_26 : decode cX7_nodeWinner 26 = .ok (.iload_n 1, 1) := by decide +kernel
theorem dX7_nodeWinner_27 : decode cX7_nodeWinner 27 = .ok (.invokevirtual 272, 3) := by decide +kernel
theorem dX7_nodeWinner_30 : decode cX7_nodeWinner 30 = .ok (.ireturn, 1) := by decide +kernel
theorem dX7_gone_0 : decode cX7_gone 0 = .ok (.aload_n 0, 1) := by decide +kernel
theorem dX7_gone_1 : decode cX7_gone 1 = .ok (.getfield 37, 3) := by decide +kernel
theorem dX7_gone_4 : decode cX7_gone 4 = .ok (.getfield 328, 3) := by decide +kernel
theorem dX7_gone_7 : decode cX7_gone 7 = .ok (.ireturn, 1) := by decide +kernel
theorem dX7_isSide_0 : decode cX7_isSide 0 = .ok (.iload_n 0, 1) := by decide +kernel
theorem dX7_isSide_1 : decode cX7_isSide 1 = .ok (.ifCond .eq 8, 3) := by decide +kernel
theorem dX7_isSide_4 : decode cX7_isSide 4 = .ok (.iload_n 0, 1) := by decide +kernel
theorem dX7_isSide_5 : decode cX7_isSide 5 = .ok (.iconst 1, 1) := by decide +kernel
theorem dX7_isSide_6 : decode cX7_isSide 6 = .ok (.if_icmp .ne 7, 3) := by decide +kernel
theorem dX7_isSide_9 : decode cX7_isSide 9 = .ok (.iconst 1, 1) := by decide +kernel
theorem dX7_isSide_10 : decode cX7_isSide 10 = .ok (.goto 4, 3) := by decide +kernel
theorem dX7_isSide_13 : decode cX7_isSide 13 = .ok (.iconst 0, 1) := by decide +kernel
theorem dX7_isSide_14 : decode cX7_isSide 14 = .ok (.ireturn, 1) := by decide +kernel
theorem dX7_isSideOrNone_0 : decode cX7_isSideOrNone 0 = .ok (.iload_n 0, 1) := by decide +kernel
theorem dX7_isSideOrNone_1 : decode cX7_isSideOrNone 1 = .ok (.iconst (-1), 1) := by decide +kernel
theorem dX7_isSideOrNone_2 : decode cX7_isSideOrNone 2 = .ok (.if_icmp .eq 10, 3) := by decide +kernel
theorem dX7_isSideOrNone_5 : decode cX7_isSideOrNone 5 = .ok (.iload_n 0, 1) := by decide +kernel
theorem dX7_isSideOrNone_6 : decode cX7_isSideOrNone 6 = .ok (.invokestatic 144, 3) := by decide +kernel
theorem dX7_isSideOrNone_9 : decode cX7_isSideOrNone 9 = .ok (.ifCond .eq 7, 3) := by decide +kernel
theorem dX7_isSideOrNone_12 : decode cX7_isSideOrNone 12 = .ok (.iconst 1, 1) := by decide +kernel
theorem dX7_isSideOrNone_13 : decode cX7_isSideOrNone 13 = .ok (.goto 4, 3) := by decide +kernel
theorem dX7_isSideOrNone_16 : decode cX7_isSideOrNone 16 = .ok (.iconst 0, 1) := by decide +kernel
theorem dX7_isSideOrNone_17 : decode cX7_isSideOrNone 17 = .ok (.ireturn, 1) := by decide +kernel
theorem dX7_isTooEarly_0 : decode cX7_isTooEarly 0 = .ok (.aload_n 0, 1) := by decide +kernel
theorem dX7_isTooEarly_1 : decode cX7_isTooEarly 1 = .ok (.getfield 30, 3) := by decide +kernel
theorem dX7_isTooEarly_4 : decode cX7_isTooEarly 4 = .ok (.getfield 101, 3) := by decide +kernel
theorem dX7_isTooEarly_7 : decode cX7_isTooEarly 7 = .ok (.astore_n 2, 1) := by decide +kernel
theorem dX7_isTooEarly_8 : decode cX7_isTooEarly 8 = .ok (.iload_n 1, 1) := by decide +kernel
theorem dX7_isTooEarly_9 : decode cX7_isTooEarly 9 = .ok (.ifCond .lt 15, 3) := by decide +kernel
theorem dX7_isTooEarly_12 : decode cX7_isTooEarly 12 = .ok (.aload_n 2, 1) := by decide +kernel
theorem dX7_isTooEarly_13 : decode cX7_isTooEarly 13 = .ok (.ifnull 15, 3) := by decide +kernel
theorem dX7_isTooEarly_16 : decode cX7_isTooEarly 16 = .ok (.iload_n 1, 1) := by decide +kernel
theorem dX7_isTooEarly_17 : decode cX7_isTooEarly 17 = .ok (.aload_n 2, 1) := by decide +kernel
theorem dX7_isTooEarly_18 : decode cX7_isTooEarly 18 = .ok (.invokevirtual 331, 3) := by decide +kernel
theorem dX7_isTooEarly_21 : decode cX7_isTooEarly 21 = .ok (.if_icmp .ge 7, 3) := by decide +kernel
theorem dX7_isTooEarly_24 : decode cX7_isTooEarly 24 = .ok (.iconst 1, 1) := by decide +kernel
theorem dX7_isTooEarly_25 : decode cX7_isTooEarly 25 = .ok (.goto 4, 3) := by decide +kernel
theorem dX7_isTooEarly_28 : decode cX7_isTooEarly 28 = .ok (.iconst 0, 1) := by decide +kernel
theorem dX7_isTooEarly_29 : decode cX7_isTooEarly 29 = .ok (.ireturn, 1) := by decide +kernel
theorem dX7_arePoolsDrawn_0 : decode cX7_arePoolsDrawn 0 = .ok (.aload_n 0, 1) := by decide +kernel
theorem dX7_arePoolsDrawn_1 : decode cX7_arePoolsDrawn 1 = .ok (.getfield 284, 3) := by decide +kernel
theorem dX7_arePoolsDrawn_4 : decode cX7_arePoolsDrawn 4 = .ok (.ifCond .le 7, 3) := by decide +kernel
theorem dX7_arePoolsDrawn_7 : decode cX7_arePoolsDrawn 7 = .ok (.iconst 1, 1) := by decide +kernel
theorem dX7_arePoolsDrawn_8 : decode cX7_arePoolsDrawn 8 = .ok (.goto 4, 3) := by decide +kernel
theorem dX7_arePoolsDrawn_11 : decode cX7_arePoolsDrawn 11 = .ok (.iconst 0, 1) := by decide +kernel
theorem dX7_arePoolsDrawn_12 : decode cX7_arePoolsDrawn 12 = .ok (.ireturn, 1) := by decide +kernel
theorem dX7_fencerAt_0 : decode cX7_fencerAt 0 = .ok (.iload_n 1, 1) := by decide +kernel
theorem dX7_fencerAt_1 : decode cX7_fencerAt 1 = .ok (.ifCond .lt 20, 3) := by decide +kernel
theorem dX7_fencerAt_4 : decode cX7_fencerAt 4 = .ok (.iload_n 1, 1) := by decide +kernel
theorem dX7_fencerAt_5 : decode cX7_fencerAt 5 = .ok (.aload_n 0, 1) := by decide +kernel
theorem dX7_fencerAt_6 : decode cX7_fencerAt 6 = .ok (.getfield 52, 3) := by decide +kernel
theorem dX7_fencerAt_9 : decode cX7_fencerAt 9 = .ok (.if_icmp .ge 12, 3) := by decide +kernel
theorem dX7_fencerAt_12 : decode cX7_fencerAt 12 = .ok (.aload_n 0, 1) := by decide +kernel
theorem dX7_fencerAt_13 : decode cX7_fencerAt 13 = .ok (.getfield 11, 3) := by decide +kernel
theorem dX7_fencerAt_16 : decode cX7_fencerAt 16 = .ok (.iload_n 1, 1) := by decide +kernel
theorem dX7_fencerAt_17 : decode cX7_fencerAt 17 = .ok (.aaload, 1) := by decide +kernel
theorem dX7_fencerAt_18 : decode cX7_fencerAt 18 = .ok (.goto 4, 3) := by decide +kernel
theorem dX7_fencerAt_21 : decode cX7_fencerAt 21 = .ok (.aconst_null, 1) := by decide +kernel
theorem dX7_fencerAt_22 : decode cX7_fencerAt 22 = .ok (.areturn, 1) := by decide +kernel
theorem dX7_weaponAt_0 : decode cX7_weaponAt 0 = .ok (.iload_n 1, 1) := by decide +kernel
theorem dX7_weaponAt_1 : decode cX7_weaponAt 1 = .ok (.ifCond .lt 20, 3) := by decide +kernel
theorem dX7_weaponAt_4 : decode cX7_weaponAt 4 = .ok (.iload_n 1, 1) := by decide +kernel
theorem dX7_weaponAt_5 : decode cX7_weaponAt 5 = .ok (.aload_n 0, 1) := by decide +kernel
theorem dX7_weaponAt_6 : decode cX7_weaponAt 6 = .ok (.getfield 79, 3) := by decide +kernel
theorem dX7_weaponAt_9 : decode cX7_weaponAt 9 = .ok (.if_icmp .ge 12, 3) := by decide +kernel
theorem dX7_weaponAt_12 : decode cX7_weaponAt 12 = .ok (.aload_n 0, 1) := by decide +kernel
theorem dX7_weaponAt_13 : decode cX7_weaponAt 13 = .ok (.getfield 17, 3) := by decide +kernel
theorem dX7_weaponAt_16 : decode cX7_weaponAt 16 = .ok (.iload_n 1, 1) := by decide +kernel
theorem dX7_weaponAt_17 : decode cX7_weaponAt 17 = .ok (.aaload, 1) := by decide +kernel
theorem dX7_weaponAt_18 : decode cX7_weaponAt 18 = .ok (.goto 4, 3) := by decide +kernel
theorem dX7_weaponAt_21 : decode cX7_weaponAt 21 = .ok (.aconst_null, 1) := by decide +kernel
theorem dX7_weaponAt_22 : decode cX7_weaponAt 22 = .ok (.areturn, 1) := by decide +kernel
theorem dX7_boutAt_0 : decode cX7_boutAt 0 = .ok (.iload_n 1, 1) := by decide +kernel
theorem dX7_boutAt_1 : decode cX7_boutAt 1 = .ok (.ifCond .lt 18, 3) := by decide +kernel
theorem dX7_boutAt_4 : decode cX7_boutAt 4 = .ok (.iload_n 1, 1) := by decide +kernel
theorem dX7_boutAt_5 : decode cX7_boutAt 5 = .ok (.aload_n 0, 1) := by decide +kernel
theorem dX7_boutAt_6 : decode cX7_boutAt 6 = .ok (.getfield 284, 3) := by decide +kernel
theorem dX7_boutAt_9 : decode cX7_boutAt 9 = .ok (.if_icmp .ge 10, 3) := by decide +kernel
theorem dX7_boutAt_12 : decode cX7_boutAt 12 = .ok (.aload_n 0, 1) := by decide +kernel
theorem dX7_boutAt_13 : decode cX7_boutAt 13 = .ok (.getfield 23, 3) := by decide +kernel
theorem dX7_boutAt_16 : decode cX7_boutAt 16 = .ok (.iload_n 1, 1) := by decide +kernel
theorem dX7_boutAt_17 : decode cX7_boutAt 17 = .ok (.aaload, 1) := by decide +kernel
theorem dX7_boutAt_18 : decode cX7_boutAt 18 = .ok (.areturn, 1) := by decide +kernel
theorem dX7_boutAt_19 : decode cX7_boutAt 19 = .ok (.iload_n 1, 1) := by decide +kernel
theorem dX7_boutAt_20 : decode cX7_boutAt 20 = .ok (.bipush 100, 2) := by decide +kernel
theorem dX7_boutAt_22 : decode cX7_boutAt 22 = .ok (.if_icmp .le 17, 3) := by decide +kernel
theorem dX7_boutAt_25 : decode cX7_boutAt 25 = .ok (.aload_n 0, 1) := by decide +kernel
theorem dX7_boutAt_26 : decode cX7_boutAt 26 = .ok (.getfield 37, 3) := by decide +kernel
theorem dX7_boutAt_29 : decode cX7_boutAt 29 = .ok (.iload_n 1, 1) := by decide +kernel
theorem dX7_boutAt_30 : decode cX7_boutAt 30 = .ok (.bipush 100, 2) := by decide +kernel
theorem dX7_boutAt_32 : decode cX7_boutAt 32 = .ok (.isub, 1) := by decide +kernel
theorem dX7_boutAt_33 : decode cX7_boutAt 33 = .ok (.invokevirtual 334, 3) := by decide +kernel
theorem dX7_boutAt_36 : decode cX7_boutAt 36 = .ok (.goto 4, 3) := by decide +kernel
theorem dX7_boutAt_39 : decode cX7_boutAt 39 = .ok (.aconst_null, 1) := by decide +kernel
theorem dX7_boutAt_40 : decode cX7_boutAt 40 = .ok (.areturn, 1) := by decide +kernel
theorem dX7_fail_0 : decode cX7_fail 0 = .ok (.aload_n 1, 1) := by decide +kernel
theorem dX7_fail_1 : decode cX7_fail 1 = .ok (.iconst 2, 1) := by decide +kernel
theorem dX7_fail_2 : decode cX7_fail 2 = .ok (.putfield 98, 3) := by decide +kernel
theorem dX7_fail_5 : decode cX7_fail 5 = .ok (.aload_n 1, 1) := by decide +kernel
theorem dX7_fail_6 : decode cX7_fail 6 = .ok (.aload_n 0, 1) := by decide +kernel
theorem dX7_fail_7 : decode cX7_fail 7 = .ok (.getfield 37, 3) := by decide +kernel
theorem dX7_fail_10 : decode cX7_fail 10 = .ok (.invokevirtual 306, 3) := by decide +kernel
theorem dX7_fail_13 : decode cX7_fail 13 = .ok (.ifCond .ne 7, 3) := by decide +kernel
theorem dX7_fail_16 : decode cX7_fail 16 = .ok (.iconst 1, 1) := by decide +kernel
theorem dX7_fail_17 : decode cX7_fail 17 = .ok (.goto 4, 3) := by decide +kernel
theorem dX7_fail_20 : decode cX7_fail 20 = .ok (.iconst 0, 1) := by decide +kernel
theorem dX7_fail_21 : decode cX7_fail 21 = .ok (.putfield 335, 3) := by decide +kernel
theorem dX7_fail_24 : decode cX7_fail 24 = .ok (.iconst 0, 1) := by decide +kernel
theorem dX7_fail_25 : decode cX7_fail 25 = .ok (.istore_n 2, 1) := by decide +kernel
theorem dX7_fail_26 : decode cX7_fail 26 = .ok (.iload_n 2, 1) := by decide +kernel
theorem dX7_fail_27 : decode cX7_fail 27 = .ok (.aload_n 0, 1) := by decide +kernel
theorem dX7_fail_28 : decode cX7_fail 28 = .ok (.getfield 284, 3) := by decide +kernel
theorem dX7_fail_31 : decode cX7_fail 31 = .ok (.if_icmp .ge 24, 3) := by decide +kernel
theorem dX7_fail_34 : decode cX7_fail 34 = .ok (.aload_n 0, 1) := by decide +kernel
theorem dX7_fail_35 : decode cX7_fail 35 = .ok (.getfield 23, 3) := by decide +kernel
theorem dX7_fail_38 : decode cX7_fail 38 = .ok (.iload_n 2, 1) := by decide +kernel
theorem dX7_fail_39 : decode cX7_fail 39 = .ok (.aaload, 1) := by decide +kernel
theorem dX7_fail_40 : decode cX7_fail 40 = .ok (.astore_n 3, 1) := by decide +kernel
theorem dX7_fail_41 : decode cX7_fail 41 = .ok (.aload_n 3, 1) := by decide +kernel
theorem dX7_fail_42 : decode cX7_fail 42 = .ok (.ifnull 7, 3) := by decide +kernel
theorem dX7_fail_45 : decode cX7_fail 45 = .ok (.aload_n 3, 1) := by decide +kernel
theorem dX7_fail_46 : decode cX7_fail 46 = .ok (.invokevirtual 246, 3) := by decide +kernel
theorem dX7_fail_49 : decode cX7_fail 49 = .ok (.iinc 2 1, 3) := by decide +kernel
theorem dX7_fail_52 : decode cX7_fail 52 = .ok (.goto (-26), 3) := by decide +kernel
theorem dX7_fail_55 : decode cX7_fail 55 = .ok (.aload_n 0, 1) := by decide +kernel
theorem dX7_fail_56 : decode cX7_fail 56 = .ok (.getfield 37, 3) := by decide +kernel
theorem dX7_fail_59 : decode cX7_fail 59 = .ok (.invokevirtual 338, 3) := by decide +kernel
theorem dX7_fail_62 : decode cX7_fail 62 = .ok (.aload_n 0, 1) := by decide +kernel
theorem dX7_fail_63 : decode cX7_fail 63 = .ok (.getfield 37, 3) := by decide +kernel
theorem dX7_fail_66 : decode cX7_fail 66 = .ok (.aload_n 0, 1) := by decide +kernel
theorem dX7_fail_67 : decode cX7_fail 67 = .ok (.getfield 30, 3) := by decide +kernel
theorem dX7_fail_70 : decode cX7_fail 70 = .ok (.invokevirtual 219, 3) := by decide +kernel
theorem dX7_fail_73 : decode cX7_fail 73 = .ok (.return_, 1) := by decide +kernel
theorem dX7_drawPool_0 : decode cX7_drawPool 0 = .ok (.iload_n 1, 1) := by decide +kernel
theorem dX7_drawPool_1 : decode cX7_drawPool 1 = .ok (.istore_n 3, 1) := by decide +kernel
theorem dX7_drawPool_2 : decode cX7_drawPool 2 = .ok (.iload_n 3, 1) := by decide +kernel
theorem dX7_drawPool_3 : decode cX7_drawPool 3 = .ok (.aload_n 0, 1) := by decide +kernel
theorem dX7_drawPool_4 : decode cX7_drawPool 4 = .ok (.getfield 52, 3) := by decide +kernel
theorem dX7_drawPool_7 : decode cX7_drawPool 7 = .ok (.if_icmp .ge 72, 3) := by decide +kernel
theorem dX7_drawPool_10 : decode cX7_drawPool 10 = .ok (.iload_n 3, 1) := by decide +kernel
theorem dX7_drawPool_11 : decode cX7_drawPool 11 = .ok (.iload_n 2, 1) := by decide +kernel
theorem dX7_drawPool_12 : decode cX7_drawPool 12 = .ok (.iadd, 1) := by decide +kernel
theorem dX7_drawPool_13 : decode cX7_drawPool 13 = .ok (.istore 4, 2) := by decide +kernel
theorem dX7_drawPool_15 : decode cX7_drawPool 15 = .ok (.iload 4, 2) := by decide +kernel
theorem dX7_drawPool_17 : decode cX7_drawPool 17 = .ok (.aload_n 0, 1) := by decide +kernel
theorem dX7_drawPool_18 : decode cX7_drawPool 18 = .ok (.getfield 52, 3) := by decide +kernel
theorem dX7_drawPool_21 : decode cX7_drawPool 21 = .ok (.if_icmp .ge 51, 3) := by decide +kernel
theorem dX7_drawPool_24 : decode cX7_drawPool 24 = .ok (.aload_n 0, 1) := by decide +kernel
theorem dX7_drawPool_25 : decode cX7_drawPool 25 = .ok (.getfield 284, 3) := by decide +kernel
theorem dX7_drawPool_28 : decode cX7_drawPool 28 = .ok (.bipush 66, 2) := by decide +kernel
theorem dX7_drawPool_30 : decode cX7_drawPool 30 = .ok (.if_icmp .ge 33, 3) := by decide +kernel
theorem dX7_drawPool_33 : decode cX7_drawPool 33 = .ok (.aload_n 0, 1) := by decide +kernel
theorem dX7_drawPool_34 : decode cX7_drawPool 34 = .ok (.getfield 23, 3) := by decide +kernel
theorem dX7_drawPool_37 : decode cX7_drawPool 37 = .ok (.aload_n 0, 1) := by decide +kernel
theorem dX7_drawPool_38 : decode cX7_drawPool 38 = .ok (.getfield 284, 3) := by decide +kernel
theorem dX7_drawPool_41 : decode cX7_drawPool 41 = .ok (.new 21, 3) := by decide +kernel
theorem dX7_drawPool_44 : decode cX7_drawPool 44 = .ok (.dup, 1) := by decide +kernel
theorem dX7_drawPool_45 : decode cX7_drawPool 45 = .ok (.iconst 1, 1) := by decide +kernel
theorem dX7_drawPool_46 : decode cX7_drawPool 46 = .ok (.iload_n 3, 1) := by decide +kernel
theorem dX7_drawPool_47 : decode cX7_drawPool 47 = .ok (.iload 4, 2) := by decide +kernel
theorem dX7_drawPool_49 : decode cX7_drawPool 49 = .ok (.invokespecial 339, 3) := by decide +kernel
theorem dX7_drawPool_52 : decode cX7_drawPool 52 = .ok (.aastore, 1) := by decide +kernel
theorem dX7_drawPool_53 : decode cX7_drawPool 53 = .ok (.aload_n 0, 1) := by decide +kernel
theorem dX7_drawPool_54 : decode cX7_drawPool 54 = .ok (.dup, 1) := by decide +kernel
theorem dX7_drawPool_55 : decode cX7_drawPool 55 = .ok (.getfield 284, 3) := by decide +kernel
theorem dX7_drawPool_58 : decode cX7_drawPool 58 = .ok (.iconst 1, 1) := by decide +kernel
theorem dX7_drawPool_59 : decode cX7_drawPool 59 = .ok (.iadd, 1) := by decide +kernel
theorem dX7_drawPool_60 : decode cX7_drawPool 60 = .ok (.putfield 284, 3) := by decide +kernel
theorem dX7_drawPool_63 : decode cX7_drawPool 63 = .ok (.iload 4, 2) := by decide +kernel
theorem dX7_drawPool_65 : decode cX7_drawPool 65 = .ok (.iload_n 2, 1) := by decide +kernel
theorem dX7_drawPool_66 : decode cX7_drawPool 66 = .ok (.iadd, 1) := by decide +kernel
theorem dX7_drawPool_67 : decode cX7_drawPool 67 = .ok (.istore 4, 2) := by decide +kernel
theorem dX7_drawPool_69 : decode cX7_drawPool 69 = .ok (.goto (-54), 3) := by decide +kernel
theorem dX7_drawPool_72 : decode cX7_drawPool 72 = .ok (.iload_n 3, 1) := by decide +kernel
theorem dX7_drawPool_73 : decode cX7_drawPool 73 = .ok (.iload_n 2, 1) := by decide +kernel
theorem dX7_drawPool_74 : decode cX7_drawPool 74 = .ok (.iadd, 1) := by decide +kernel
theorem dX7_drawPool_75 : decode cX7_drawPool 75 = .ok (.istore_n 3, 1) := by decide +kernel
theorem dX7_drawPool_76 : decode cX7_drawPool 76 = .ok (.goto (-74), 3) := by decide +kernel
theorem dX7_drawPool_79 : decode cX7_drawPool 79 = .ok (.return_, 1) := by decide +kernel
theorem dX7_isAPoolBoutOpen_0 : decode cX7_isAPoolBoutOpen 0 = .ok (.iconst 0, 1) := by decide +kernel
theorem dX7_isAPoolBoutOpen_1 : decode cX7_isAPoolBoutOpen 1 = .ok (.istore_n 1, 1) := by decide +kernel
theorem dX7_isAPoolBoutOpen_2 : decode cX7_isAPoolBoutOpen 2 = .ok (.iload_n 1, 1) := by decide +kernel
theorem dX7_isAPoolBoutOpen_3 : decode cX7_isAPoolBoutOpen 3 = .ok (.aload_n 0, 1) := by decide +kernel
theorem dX7_isAPoolBoutOpen_4 : decode cX7_isAPoolBoutOpen 4 = .ok (.getfield 284, 3) := by decide +kernel
theorem dX7_isAPoolBoutOpen_7 : decode cX7_isAPoolBoutOpen 7 = .ok (.if_icmp .ge 30, 3) := by decide +kernel
theorem dX7_isAPoolBoutOpen_10 : decode cX7_isAPoolBoutOpen 10 = .ok (.aload_n 0, 1) := by decide +kernel
theorem dX7_isAPoolBoutOpen_11 : decode cX7_isAPoolBoutOpen 11 = .ok (.getfield 23, 3) := by decide +kernel
theorem dX7_isAPoolBoutOpen_14 : decode cX7_isAPoolBoutOpen 14 = .ok (.iload_n 1, 1) := by decide +kernel
theorem dX7_isAPoolBoutOpen_15 : decode cX7_isAPoolBoutOpen 15 = .ok (.aaload, 1) := by decide +kernel
theorem dX7_isAPoolBoutOpen_16 : decode cX7_isAPoolBoutOpen 16 = .ok (.astore_n 2, 1) := by decide +kernel
theorem dX7_isAPoolBoutOpen_17 : decode cX7_isAPoolBoutOpen 17 = .ok (.aload_n 2, 1) := by decide +kernel
theorem dX7_isAPoolBoutOpen_18 : decode cX7_isAPoolBoutOpen 18 = .ok (.ifnull 13, 3) := by decide +kernel
theorem dX7_isAPoolBoutOpen_21 : decode cX7_isAPoolBoutOpen 21 = .ok (.aload_n 2, 1) := by decide +kernel
theorem dX7_isAPoolBoutOpen_22 : decode cX7_isAPoolBoutOpen 22 = .ok (.invokevirtual 342, 3) := by decide +kernel
theorem dX7_isAPoolBoutOpen_25 : decode cX7_isAPoolBoutOpen 25 = .ok (.iconst (-1), 1) := by decide +kernel
theorem dX7_isAPoolBoutOpen_26 : decode cX7_isAPoolBoutOpen 26 = .ok (.if_icmp .ne 5, 3) := by decide +kernel
theorem dX7_isAPoolBoutOpen_29 : decode cX7_isAPoolBoutOpen 29 = .ok (.iconst 1, 1) := by decide +kernel
theorem dX7_isAPoolBoutOpen_30 : decode cX7_isAPoolBoutOpen 30 = .ok (.ireturn, 1) := by decide +kernel
theorem dX7_isAPoolBoutOpen_31 : decode cX7_isAPoolBoutOpen 31 = .ok (.iinc 1 1, 3) := by decide +kernel
theorem dX7_isAPoolBoutOpen_34 : decode cX7_isAPoolBoutOpen 34 = .ok (.goto (-32), 3) := by decide +kernel
theorem dX7_isAPoolBoutOpen_37 : decode cX7_isAPoolBoutOpen 37 = .ok (.iconst 0, 1) := by decide +kernel
theorem dX7_isAPoolBoutOpen_38 : decode cX7_isAPoolBoutOpen 38 = .ok (.ireturn, 1) := by decide +kernel
theorem dX7_countPools_0 : decode cX7_countPools 0 = .ok (.iconst 0, 1) := by decide +kernel
theorem dX7_countPools_1 : decode cX7_countPools 1 = .ok (.istore_n 1, 1) := by decide +kernel
theorem dX7_countPools_2 : decode cX7_countPools 2 = .ok (.iload_n 1, 1) := by decide +kernel
theorem dX7_countPools_3 : decode cX7_countPools 3 = .ok (.aload_n 0, 1) := by decide +kernel
theorem dX7_countPools_4 : decode cX7_countPools 4 = .ok (.getfield 52, 3) := by decide +kernel
theorem dX7_countPools_7 : decode cX7_countPools 7 = .ok (.if_icmp .ge 23, 3) := by decide +kernel
theorem dX7_countPools_10 : decode cX7_countPools 10 = .ok (.aload_n 0, 1) := by decide +kernel
theorem dX7_countPools_11 : decode cX7_countPools 11 = .ok (.iload_n 1, 1) := by decide +kernel
theorem dX7_countPools_12 : decode cX7_countPools 12 = .ok (.invokevirtual 70, 3) := by decide +kernel
theorem dX7_countPools_15 : decode cX7_countPools 15 = .ok (.astore_n 2, 1) := by decide +kernel
theorem dX7_countPools_16 : decode cX7_countPools 16 = .ok (.aload_n 2, 1) := by decide +kernel
theorem dX7_countPools_17 : decode cX7_countPools 17 = .ok (.ifnull 7, 3) := by decide +kernel
theorem dX7_countPools_20 : decode cX7_countPools 20 = .ok (.aload_n 2, 1) := by decide +kernel
theorem dX7_countPools_21 : decode cX7_countPools 21 = .ok (.invokevirtual 345, 3) := by decide +kernel
theorem dX7_countPools_24 : decode cX7_countPools 24 = .ok (.iinc 1 1, 3) := by decide +kernel
theorem dX7_countPools_27 : decode cX7_countPools 27 = .ok (.goto (-25), 3) := by decide +kernel
theorem dX7_countPools_30 : decode cX7_countPools 30 = .ok (.iconst 0, 1) := by decide +kernel
theorem dX7_countPools_31 : decode cX7_countPools 31 = .ok (.istore_n 1, 1) := by decide +kernel
theorem dX7_countPools_32 : decode cX7_countPools 32 = .ok (.iload_n 1, 1) := by decide +kernel
theorem dX7_countPools_33 : decode cX7_countPools 33 = .ok (.aload_n 0, 1) := by decide +kernel
theorem dX7_countPools_34 : decode cX7_countPools 34 = .ok (.getfield 284, 3) := by decide +kernel
theorem dX7_countPools_37 : decode cX7_countPools 37 = .ok (.if_icmp .ge 40, 3) := by decide +kernel
theorem dX7_countPools_40 : decode cX7_countPools 40 = .ok (.aload_n 0, 1) := by decide +kernel
theorem dX7_countPools_41 : decode cX7_countPools 41 = .ok (.getfield 23, 3) := by decide +kernel
theorem dX7_countPools_44 : decode cX7_countPools 44 = .ok (.iload_n 1, 1) := by decide +kernel
theorem dX7_countPools_45 : decode cX7_countPools 45 = .ok (.aaload, 1) := by decide +kernel
theorem dX7_countPools_46 : decode cX7_countPools 46 = .ok (.astore_n 2, 1) := by decide +kernel
theorem dX7_countPools_47 : decode cX7_countPools 47 = .ok (.aload_n 2, 1) := by decide +kernel
theorem dX7_countPools_48 : decode cX7_countPools 48 = .ok (.ifnull 23, 3) := by decide +kernel
theorem dX7_countPools_51 : decode cX7_countPools 51 = .ok (.aload_n 2, 1) := by decide +kernel
theorem dX7_countPools_52 : decode cX7_countPools 52 = .ok (.invokevirtual 342, 3) := by decide +kernel
theorem dX7_countPools_55 : decode cX7_countPools 55 = .ok (.iconst (-1), 1) := by decide +kernel
theorem dX7_countPools_56 : decode cX7_countPools 56 = .ok (.if_icmp .eq 15, 3) := by decide +kernel
theorem dX7_countPools_59 : decode cX7_countPools 59 = .ok (.aload_n 0, 1) := by decide +kernel
theorem dX7_countPools_60 : decode cX7_countPools 60 = .ok (.aload_n 2, 1) := by decide +kernel
theorem dX7_countPools_61 : decode cX7_countPools 61 = .ok (.iconst 0, 1) := by decide +kernel
theorem dX7_countPools_62 : decode cX7_countPools 62 = .ok (.invokevirtual 348, 3) := by decide +kernel
theorem dX7_countPools_65 : decode cX7_countPools 65 = .ok (.aload_n 0, 1) := by decide +kernel
theorem dX7_countPools_66 : decode cX7_countPools 66 = .ok (.aload_n 2, 1) := by decide +kernel
theorem dX7_countPools_67 : decode cX7_countPools 67 = .ok (.iconst 1, 1) := by decide +kernel
theorem dX7_countPools_68 : decode cX7_countPools 68 = .ok (.invokevirtual 348, 3) := by decide +kernel
theorem dX7_countPools_71 : decode cX7_countPools 71 = .ok (.iinc 1 1, 3) := by decide +kernel
theorem dX7_countPools_74 : decode cX7_countPools 74 = .ok (.goto (-42), 3) := by decide +kernel
theorem dX7_countPools_77 : decode cX7_countPools 77 = .ok (.return_, 1) := by decide +kernel
theorem dX7_countSide_0 : decode cX7_countSide 0 = .ok (.aload_n 0, 1) := by decide +kernel
theorem dX7_countSide_1 : decode cX7_countSide 1 = .ok (.aload_n 1, 1) := by decide +kernel
theorem dX7_countSide_2 : decode cX7_countSide 2 = .ok (.iload_n 2, 1) := by decide +kernel
theorem dX7_countSide_3 : decode cX7_countSide 3 = .ok (.invokevirtual 155, 3) := by decide +kernel
theorem dX7_countSide_6 : decode cX7_countSide 6 = .ok (.invokevirtual 70, 3) := by decide +kernel
theorem dX7_countSide_9 : decode cX7_countSide 9 = .ok (.astore_n 3, 1) := by decide +kernel
theorem dX7_countSide_10 : decode cX7_countSide 10 = .ok (.aload_n 3, 1) := by decide +kernel
theorem dX7_countSide_11 : decode cX7_countSide 11 = .ok (.ifnull 38, 3) := by decide +kernel
theorem dX7_countSide_14 : decode cX7_countSide 14 = .ok (.aload_n 3, 1) := by decide +kernel
theorem dX7_countSide_15 : decode cX7_countSide 15 = .ok (.aload_n 1, 1) := by decide +kernel
theorem dX7_countSide_16 : decode cX7_countSide 16 = .ok (.getfield 254, 3) := by decide +kernel
theorem dX7_countSide_19 : decode cX7_countSide 19 = .ok (.iload_n 2, 1) := by decide +kernel
theorem dX7_countSide_20 : decode cX7_countSide 20 = .ok (.invokevirtual 257, 3) := by decide +kernel
theorem dX7_countSide_23 : decode cX7_countSide 23 = .ok (.aload_n 1, 1) := by decide +kernel
theorem dX7_countSide_24 : decode cX7_countSide 24 = .ok (.getfield 254, 3) := by decide +kernel
theorem dX7_countSide_27 : decode cX7_countSide 27 = .ok (.iconst 1, 1) := by decide +kernel
theorem dX7_countSide_28 : decode cX7_countSide 28 = .ok (.iload_n 2, 1) := by decide +kernel
theorem dX7_countSide_29 : decode cX7_countSide 29 = .ok (.isub, 1) := by decide +kernel
theorem dX7_countSide_30 : decode cX7_countSide 30 = .ok (.invokevirtual 257, 3) := by decide +kernel
theorem dX7_countSide_33 : decode cX7_countSide 33 = .ok (.aload_n 1, 1) := by decide +kernel
theorem dX7_countSide_34 : decode cX7_countSide 34 = .ok (.invokevirtual 342, 3) := by decide +kernel
theorem dX7_countSide_37 : decode cX7_countSide 37 = .ok (.iload_n 2, 1) := by decide +kernel
theorem dX7_countSide_38 : decode cX7_countSide 38 = .ok (.if_icmp .ne 7, 3) := by decide +kernel
theorem dX7_countSide_41 : decode cX7_countSide 41 = .ok (.iconst 1, 1) := by decide +kernel
theorem dX7_countSide_42 : decode cX7_countSide 42 = .ok (.goto 4, 3) := by decide +kernel
theorem dX7_countSide_45 : decode cX7_countSide 45 = .ok (.iconst 0, 1) := by decide +kernel
theorem dX7_countSide_46 : decode cX7_countSide 46 = .ok (.invokevirtual 352, 3) := by decide +kernel
theorem dX7_countSide_49 : decode cX7_countSide 49 = .ok (.return_, 1) := by decide +kernel
theorem dX7_fencerInPlace_0 : decode cX7_fencerInPlace 0 = .ok (.iconst 0, 1) := by decide +kernel
theorem dX7_fencerInPlace_1 : decode cX7_fencerInPlace 1 = .ok (.istore_n 2, 1) := by decide +kernel
theorem dX7_fencerInPlace_2 : decode cX7_fencerInPlace 2 = .ok (.iload_n 2, 1) := by decide +kernel
theorem dX7_fencerInPlace_3 : decode cX7_fencerInPlace 3 = .ok (.aload_n 0, 1) := by decide +kernel
theorem dX7_fencerInPlace_4 : decode cX7_fencerInPlace 4 = .ok (.getfield 52, 3) := by decide +kernel
theorem dX7_fencerInPlace_7 : decode cX7_fencerInPlace 7 = .ok (.if_icmp .ge 30, 3) := by decide +kernel
theorem dX7_fencerInPlace_10 : decode cX7_fencerInPlace 10 = .ok (.aload_n 0, 1) := by decide +kernel
theorem dX7_fencerInPlace_11 : decode cX7_fencerInPlace 11 = .ok (.iload_n 2, 1) := by decide +kernel
theorem dX7_fencerInPlace_12 : decode cX7_fencerInPlace 12 = .ok (.invokevirtual 70, 3) := by decide +kernel
theorem dX7_fencerInPlace_15 : decode cX7_fencerInPlace 15 = .ok (.astore_n 3, 1) := by decide +kernel
theorem dX7_fencerInPlace_16 : decode cX7_fencerInPlace 16 = .ok (.aload_n 3, 1) := by decide +kernel
theorem dX7_fencerInPlace_17 : decode cX7_fencerInPlace 17 = .ok (.ifnull 14, 3) := by decide +kernel
theorem dX7_fencerInPlace_20 : decode cX7_fencerInPlace 20 = .ok (.aload_n 0, 1) := by decide +kernel
theorem dX7_fencerInPlace_21 : decode cX7_fencerInPlace 21 = .ok (.aload_n 3, 1) := by decide +kernel
theorem dX7_fencerInPlace_22 : decode cX7_fencerInPlace 22 = .ok (.invokevirtual 356, 3) := by decide +kernel
theorem dX7_fencerInPlace_25 : decode cX7_fencerInPlace 25 = .ok (.iload_n 1, 1) := by decide +kernel
theorem dX7_fencerInPlace_26 : decode cX7_fencerInPlace 26 = .ok (.if_icmp .ne 5, 3) := by decide +kernel
theorem dX7_fencerInPlace_29 : decode cX7_fencerInPlace 29 = .ok (.iload_n 2, 1) := by decide +kernel
theorem dX7_fencerInPlace_30 : decode cX7_fencerInPlace 30 = .ok (.ireturn, 1) := by decide +kernel
theorem dX7_fencerInPlace_31 : decode cX7_fencerInPlace 31 = .ok (.iinc 2 1, 3) := by decide +kernel
theorem dX7_fencerInPlace_34 : decode cX7_fencerInPlace 34 = .ok (.goto (-32), 3) := by decide +kernel
theorem dX7_fencerInPlace_37 : decode cX7_fencerInPlace 37 = .ok (.iconst (-1), 1) := by decide +kernel
theorem dX7_fencerInPlace_38 : decode cX7_fencerInPlace 38 = .ok (.ireturn, 1) := by decide +kernel
theorem dX7_fencersAhead_0 : decode cX7_fencersAhead 0 = .ok (.iconst 0, 1) := by decide +kernel
theorem dX7_fencersAhead_1 : decode cX7_fencersAhead 1 = .ok (.istore_n 2, 1) := by decide +kernel
theorem dX7_fencersAhead_2 : decode cX7_fencersAhead 2 = .ok (.iconst 0, 1) := by decide +kernel
theorem dX7_fencersAhead_3 : decode cX7_fencersAhead 3 = .ok (.istore_n 3, 1) := by decide +kernel
theorem dX7_fencersAhead_4 : decode cX7_fencersAhead 4 = .ok (.iload_n 3, 1) := by decide +kernel
theorem dX7_fencersAhead_5 : decode cX7_fencersAhead 5 = .ok (.aload_n 0, 1) := by decide +kernel
theorem dX7_fencersAhead_6 : decode cX7_fencersAhead 6 = .ok (.getfield 52, 3) := by decide +kernel
theorem dX7_fencersAhead_9 : decode cX7_fencersAhead 9 = .ok (.if_icmp .ge 33, 3) := by decide +kernel
theorem dX7_fencersAhead_12 : decode cX7_fencersAhead 12 = .ok (.aload_n 0, 1) := by decide +kernel
theorem dX7_fencersAhead_13 : decode cX7_fencersAhead 13 = .ok (.iload_n 3, 1) := by decide +kernel
theorem dX7_fencersAhead_14 : decode cX7_fencersAhead 14 = .ok (.invokevirtual 70, 3) := by decide +kernel
theorem dX7_fencersAhead_17 : decode cX7_fencersAhead 17 = .ok (.astore 4, 2) := by decide +kernel
theorem dX7_fencersAhead_19 : decode cX7_fencersAhead 19 = .ok (.aload 4, 2) := by decide +kernel
theorem dX7_fencersAhead_21 : decode cX7_fencersAhead 21 = .ok (.ifnull 15, 3) := by decide +kernel
theorem dX7_fencersAhead_24 : decode cX7_fencersAhead 24 = .ok (.aload 4, 2) := by decide +kernel
theorem dX7_fencersAhead_26 : decode cX7_fencersAhead 26 = .ok (.aload_n 1, 1) := by decide +kernel
theorem dX7_fencersAhead_27 : decode cX7_fencersAhead 27 = .ok (.invokevirtual 360, 3) := by decide +kernel
theorem dX7_fencersAhead_30 : decode cX7_fencersAhead 30 = .ok (.ifCond .eq 6, 3) := by decide +kernel
theorem dX7_fencersAhead_33 : decode cX7_fencersAhead 33 = .ok (.iinc 2 1, 3) := by decide +kernel
theorem dX7_fencersAhead_36 : decode cX7_fencersAhead 36 = .ok (.iinc 3 1, 3) := by decide +kernel
theorem dX7_fencersAhead_39 : decode cX7_fencersAhead 39 = .ok (.goto (-35), 3) := by decide +kernel
theorem dX7_fencersAhead_42 : decode cX7_fencersAhead 42 = .ok (.iload_n 2, 1) := by decide +kernel
theorem dX7_fencersAhead_43 : decode cX7_fencersAhead 43 = .ok (.ireturn, 1) := by decide +kernel
theorem dX8_init_0 : decode cX8_init 0 = .ok (.aload_n 0, 1) := by decide +kernel
theorem dX8_init_1 : decode cX8_init 1 = .ok (.invokespecial 1, 3) := by decide +kernel
theorem dX8_init_4 : decode cX8_init 4 = .ok (.aload_n 0, 1) := by decide +kernel
theorem dX8_init_5 : decode cX8_init 5 = .ok (.bipush 24, 2) := by decide +kernel
theorem dX8_init_7 : decode cX8_init 7 = .ok (.newarray .int, 2) := by decide +kernel
theorem dX8_init_9 : decode cX8_init 9 = .ok (.putfield 7, 3) := by decide +kernel
theorem dX8_init_12 : decode cX8_init 12 = .ok (.aload_n 0, 1) := by decide +kernel
theorem dX8_init_13 : decode cX8_init 13 = .ok (.bipush 24, 2) := by decide +kernel
theorem dX8_init_15 : decode cX8_init 15 = .ok (.newarray .int, 2) := by decide +kernel
theorem dX8_init_17 : decode cX8_init 17 = .ok (.putfield 13, 3) := by decide +kernel
theorem dX8_init_20 : decode cX8_init 20 = .ok (.aload_n 0, 1) := by decide +kernel
theorem dX8_init_21 : decode cX8_init 21 = .ok (.bipush 24, 2) := by decide +kernel
theorem dX8_init_23 : decode cX8_init 23 = .ok (.newarray .boolean, 2) := by decide +kernel
theorem dX8_init_25 : decode cX8_init 25 = .ok (.putfield 16, 3) := by decide +kernel
theorem dX8_init_28 : decode cX8_init 28 = .ok (.aload_n 0, 1) := by decide +kernel
theorem dX8_init_29 : decode cX8_init 29 = .ok (.bipush 66, 2) := by decide +kernel
theorem dX8_init_31 : decode cX8_init 31 = .ok (.newarray .int, 2) := by decide +kernel
theorem dX8_init_33 : decode cX8_init 33 = .ok (.putfield 20, 3) := by decide +kernel
theorem dX8_init_36 : decode cX8_init 36 = .ok (.aload_n 0, 1) := by decide +kernel
theorem dX8_init_37 : decode cX8_init 37 = .ok (.bipush 66, 2) := by decide +kernel
theorem dX8_init_39 : decode cX8_init 39 = .ok (.newarray .int, 2) := by decide +kernel
theorem dX8_init_41 : decode cX8_init 41 = .ok (.putfield 23, 3) := by decide +kernel
theorem dX8_init_44 : decode cX8_init 44 = .ok (.aload_n 0, 1) := by decide +kernel
theorem dX8_init_45 : decode cX8_init 45 = .ok (.bipush 82, 2) := by decide +kernel
theorem dX8_init_47 : decode cX8_init 47 = .ok (.newarray .int, 2) := by decide +kernel
theorem dX8_init_49 : decode cX8_init 49 = .ok (.putfield 26, 3) := by decide +kernel
theorem dX8_init_52 : decode cX8_init 52 = .ok (.aload_n 0, 1) := by decide +kernel
theorem dX8_init_53 : decode cX8_init 53 = .ok (.sipush 164, 3) := by decide +kernel
theorem dX8_init_56 : decode cX8_init 56 = .ok (.newarray .int, 2) := by decide +kernel
theorem dX8_init_58 : decode cX8_init 58 = .ok (.putfield 29, 3) := by decide +kernel
theorem dX8_init_61 : decode cX8_init 61 = .ok (.aload_n 0, 1) := by decide +kernel
theorem dX8_init_62 : decode cX8_init 62 = .ok (.sipush 984, 3) := by decide +kernel
theorem dX8_init_65 : decode cX8_init 65 = .ok (.newarray .int, 2) := by decide +kernel
theorem dX8_init_67 : decode cX8_init 67 = .ok (.putfield 32, 3) := by decide +kernel
theorem dX8_init_70 : decode cX8_init 70 = .ok (.aload_n 0, 1) := by decide +kernel
theorem dX8_init_71 : decode cX8_init 71 = .ok (.sipush 1968, 3) := by decide +kernel
theorem dX8_init_74 : decode cX8_init 74 = .ok (.newarray .int, 2) := by decide +kernel
theorem dX8_init_76 : decode cX8_init 76 = .ok (.putfield 35, 3) := by decide +kernel
theorem dX8_init_79 : decode cX8_init 79 = .ok (.aload_n 0, 1) := by decide +kernel
theorem dX8_init_80 : decode cX8_init 80 = .ok (.sipush 984, 3) := by decide +kernel
theorem dX8_init_83 : decode cX8_init 83 = .ok (.newarray .int, 2) := by decide +kernel
theorem dX8_init_85 : decode cX8_init 85 = .ok (.putfield 38, 3) := by decide +kernel
theorem dX8_init_88 : decode cX8_init 88 = .ok (.aload_n 0, 1) := by decide +kernel
theorem dX8_init_89 : decode cX8_init 89 = .ok (.sipush 7872, 3) := by decide +kernel
theorem dX8_init_92 : decode cX8_init 92 = .ok (.newarray .int, 2) := by decide +kernel
theorem dX8_init_94 : decode cX8_init 94 = .ok (.putfield 41, 3) := by decide +kernel
theorem dX8_init_97 : decode cX8_init 97 = .ok (.aload_n 0, 1) := by decide +kernel
theorem dX8_init_98 : decode cX8_init 98 = .ok (.sipush 7872, 3) := by decide +kernel
theorem dX8_init_101 : decode cX8_init 101 = .ok (.newarray .int, 2) := by decide +kernel
theorem dX8_init_103 : decode cX8_init 103 = .ok (.putfield 44, 3) := by decide +kernel
theorem dX8_init_106 : decode cX8_init 106 = .ok (.aload_n 0, 1) := by decide +kernel
theorem dX8_init_107 : decode cX8_init 107 = .ok (.iconst (-1), 1) := by decide +kernel
theorem dX8_init_108 : decode cX8_init 108 = .ok (.putfield 47, 3) := by decide +kernel
theorem dX8_init_111 : decode cX8_init 111 = .ok (.aload_n 0, 1) := by decide +kernel
theorem dX8_init_112 : decode cX8_init 112 = .ok (.iconst 2, 1) := by decide +kernel
theorem dX8_init_113 : decode cX8_init 113 = .ok (.newarray .int, 2) := by decide +kernel
theorem dX8_init_115 : decode cX8_init 115 = .ok (.putfield 51, 3) := by decide +kernel
theorem dX8_init_118 : decode cX8_init 118 = .ok (.aload_n 0, 1) := by decide +kernel
theorem dX8_init_119 : decode cX8_init 119 = .ok (.bipush 32, 2) := by decide +kernel
theorem dX8_init_121 : decode cX8_init 121 = .ok (.newarray .int, 2) := by decide +kernel
theorem dX8_init_123 : decode cX8_init 123 = .ok (.putfield 54, 3) := by decide +kernel
theorem dX8_init_126 : decode cX8_init 126 = .ok (.aload_n 0, 1) := by decide +kernel
theorem dX8_init_127 : decode cX8_init 127 = .ok (.bipush 32, 2) := by decide +kernel
theorem dX8_init_129 : decode cX8_init 129 = .ok (.newarray .boolean, 2) := by decide +kernel
theorem dX8_init_131 : decode cX8_init 131 = .ok (.putfield 57, 3) := by decide +kernel
theorem dX8_init_134 : decode cX8_init 134 = .ok (.aload_n 0, 1) := by decide +kernel
theorem dX8_init_135 : decode cX8_init 135 = .ok (.bipush 16, 2) := by decide +kernel
theorem dX8_init_137 : decode cX8_init 137 = .ok (.newarray .int, 2) := by decide +kernel
theorem dX8_init_139 : decode cX8_init 139 = .ok (.putfield 60, 3) := by decide +kernel
theorem dX8_init_142 : decode cX8_init 142 = .ok (.aload_n 0, 1) := by decide +kernel
theorem dX8_init_143 : decode cX8_init 143 = .ok (.bipush 12, 2) := by decide +kernel
theorem dX8_init_145 : decode cX8_init 145 = .ok (.newarray .int, 2) := by decide +kernel
theorem dX8_init_147 : decode cX8_init 147 = .ok (.putfield 63, 3) := by decide +kernel
theorem dX8_init_150 : decode cX8_init 150 = .ok (.aload_n 0, 1) := by decide +kernel
theorem dX8_init_151 : decode cX8_init 151 = .ok (.bipush 12, 2) := by decide +kernel
theorem dX8_init_153 : decode cX8_init 153 = .ok (.newarray .int, 2) := by decide +kernel
theorem dX8_init_155 : decode cX8_init 155 = .ok (.putfield 66, 3) := by decide +kernel
theorem dX8_init_158 : decode cX8_init 158 = .ok (.aload_n 0, 1) := by decide +kernel
theorem dX8_init_159 : decode cX8_init 159 = .ok (.bipush 12, 2) := by decide +kernel
theorem dX8_init_161 : decode cX8_init 161 = .ok (.newarray .int, 2) := by decide +kernel
theorem dX8_init_163 : decode cX8_init 163 = .ok (.putfield 69, 3) := by decide +kernel
theorem dX8_init_166 : decode cX8_init 166 = .ok (.aload_n 0, 1) := by decide +kernel
theorem dX8_init_167 : decode cX8_init 167 = .ok (.bipush 12, 2) := by decide +kernel
theorem dX8_init_169 : decode cX8_init 169 = .ok (.newarray .int, 2) := by decide +kernel
theorem dX8_init_171 : decode cX8_init 171 = .ok (.putfield 72, 3) := by decide +kernel
theorem dX8_init_174 : decode cX8_init 174 = .ok (.aload_n 0, 1) := by decide +kernel
theorem dX8_init_175 : decode cX8_init 175 = .ok (.iload_n 1, 1) := by decide +kernel
theorem dX8_init_176 : decode cX8_init 176 = .ok (.ifCond .eq 7, 3) := by decide +kernel
theorem dX8_init_179 : decode cX8_init 179 = .ok (.iconst 1, 1) := by decide +kernel
theorem dX8_init_180 : decode cX8_init 180 = .ok (.goto 4, 3) := by decide +kernel
theorem dX8_init_183 : decode cX8_init 183 = .ok (.iconst 0, 1) := by decide +kernel
theorem dX8_init_184 : decode cX8_init 184 = .ok (.putfield 75, 3) := by decide +kernel
theorem dX8_init_187 : decode cX8_init 187 = .ok (.return_, 1) := by decide +kernel
theorem dX8_thrown_0 : decode cX8_thrown 0 = .ok (.aload_n 0, 1) := by decide +kernel
theorem dX8_thrown_1 : decode cX8_thrown 1 = .ok (.getfield 79, 3) := by decide +kernel
theorem dX8_thrown_4 : decode cX8_thrown 4 = .ok (.ireturn, 1) := by decide +kernel
theorem dX8_in_0 : decode cX8_in 0 = .ok (.iload_n 0, 1) := by decide +kernel
theorem dX8_in_1 : decode cX8_in 1 = .ok (.iload_n 1, 1) := by decide +kernel
theorem dX8_in_2 : decode cX8_in 2 = .ok (.if_icmp .lt 12, 3) := by decide +kernel
theorem dX8_in_5 : decode cX8_in 5 = .ok (.iload_n 0, 1) := by decide +kernel
theorem dX8_in_6 : decode cX8_in 6 = .ok (.iload_n 2, 1) := by decide +kernel
theorem dX8_in_7 : decode cX8_in 7 = .ok (.if_icmp .gt 7, 3) := by decide +kernel
theorem dX8_in_10 : decode cX8_in 10 = .ok (.iconst 1, 1) := by decide +kernel
theorem dX8_in_11 : decode cX8_in 11 = .ok (.goto 4, 3) := by decide +kernel
theorem dX8_in_14 : decode cX8_in 14 = .ok (.iconst 0, 1) := by decide +kernel
theorem dX8_in_15 : decode cX8_in 15 = .ok (.ireturn, 1) := by decide +kernel
theorem dX8_goes_0 : decode cX8_goes 0 = .ok (.aload_n 0, 1) := by decide +kernel
theorem dX8_goes_1 : decode cX8_goes 1 = .ok (.iload_n 1, 1) := by decide +kernel
theorem dX8_goes_2 : decode cX8_goes 2 = .ok (.ifCond .ne 7, 3) := by decide +kernel
theorem dX8_goes_5 : decode cX8_goes 5 = .ok (.iconst 1, 1) := by decide +kernel
theorem dX8_goes_6 : decode cX8_goes 6 = .ok (.goto 20, 3) := by decide +kernel
theorem dX8_goes_9 : decode cX8_goes 9 = .ok (.iload_n 2, 1) := by decide +kernel
theorem dX8_goes_10 : decode cX8_goes 10 = .ok (.ifCond .ne 7, 3) := by decide +kernel
theorem dX8_goes_13 : decode cX8_goes 13 = .ok (.iconst 2, 1) := by decide +kernel
theorem dX8_goes_14 : decode cX8_goes 14 = .ok (.goto 12, 3) := by decide +kernel
theorem dX8_goes_17 : decode cX8_goes 17 = .ok (.iload_n 3, 1) := by decide +kernel
theorem dX8_goes_18 : decode cX8_goes 18 = .ok (.ifCond .eq 7, 3) := by decide +kernel
theorem dX8_goes_21 : decode cX8_goes 21 = .ok (.iconst 0, 1) := by decide +kernel
theorem dX8_goes_22 : decode cX8_goes 22 = .ok (.goto 4, 3) := by decide +kernel
theorem dX8_goes_25 : decode cX8_goes 25 = .ok (.iconst 3, 1) := by decide +kernel
theorem dX8_goes_26 : decode cX8_goes 26 = .ok (.putfield 79, 3) := by decide +kernel
theorem dX8_goes_29 : decode cX8_goes 29 = .ok (.aload_n 0, 1) := by decide +kernel
theorem dX8_goes_30 : decode cX8_goes 30 = .ok (.getfield 79, 3) := by decide +kernel
theorem dX8_goes_33 : decode cX8_goes 33 = .ok (.ifCond .ne 7, 3) := by decide +kernel
theorem dX8_goes_36 : decode cX8_goes 36 = .ok (.iconst 1, 1) := by decide +kernel
theorem dX8_goes_37 : decode cX8_goes 37 = .ok (.goto 4, 3) := by decide +kernel
theorem dX8_goes_40 : decode cX8_goes 40 = .ok (.iconst 0, 1) := by decide +kernel
theorem dX8_goes_41 : decode cX8_goes 41 = .ok (.ireturn, 1) := by decide +kernel
theorem dX8_isFencer_0 : decode cX8_isFencer 0 = .ok (.iload_n 1, 1) := by decide +kernel
theorem dX8_isFencer_1 : decode cX8_isFencer 1 = .ok (.iconst 0, 1) := by decide +kernel
theorem dX8_isFencer_2 : decode cX8_isFencer 2 = .ok (.aload_n 0, 1) := by decide +kernel
theorem dX8_isFencer_3 : decode cX8_isFencer 3 = .ok (.getfield 82, 3) := by decide +kernel
theorem dX8_isFencer_6 : decode cX8_isFencer 6 = .ok (.iconst 1, 1) := by decide +kernel
theorem dX8_isFencer_7 : decode cX8_isFencer 7 = .ok (.isub, 1) := by decide +kernel
theorem dX8_isFencer_8 : decode cX8_isFencer 8 = .ok (.invokestatic 85, 3) := by decide +kernel
theorem dX8_isFencer_11 : decode cX8_isFencer 11 = .ok (.ireturn, 1) := by decide +kernel
theorem dX8_isWeapon_0 : decode cX8_isWeapon 0 = .ok (.iload_n 1, 1) := by decide +kernel
theorem dX8_isWeapon_1 : decode cX8_isWeapon 1 = .ok (.iconst 0, 1) := by decide +kernel
theorem dX8_isWeapon_2 : decode cX8_isWeapon 2 = .ok (.aload_n 0, 1) := by decide +kernel
theorem dX8_isWeapon_3 : decode cX8_isWeapon 3 = .ok (.getfield 89, 3) := by decide +kernel
theorem dX8_isWeapon_6 : decode cX8_isWeapon 6 = .ok (.iconst 1, 1) := by decide +kernel
theorem dX8_isWeapon_7 : decode cX8_isWeapon 7 = .ok (.isub, 1) := by decide +kernel
theorem dX8_isWeapon_8 : decode cX8_isWeapon 8 = .ok (.invokestatic 85, 3) := by decide +kernel
theorem dX8_isWeapon_11 : decode cX8_isWeapon 11 = .ok (.ireturn, 1) := by decide +kernel
theorem dX8_isSide_0 : decode cX8_isSide 0 = .ok (.iload_n 0, 1) := by decide +kernel
theorem dX8_isSide_1 : decode cX8_isSide 1 = .ok (.iconst 0, 1) := by decide +kernel
theorem dX8_isSide_2 : decode cX8_isSide 2 = .ok (.iconst 1, 1) := by decide +kernel
theorem dX8_isSide_3 : decode cX8_isSide 3 = .ok (.invokestatic 85, 3) := by decide +kernel
theorem dX8_isSide_6 : decode cX8_isSide 6 = .ok (.ireturn, 1) := by decide +kernel
theorem dX8_isBout_0 : decode cX8_isBout 0 = .ok (.iload_n 1, 1) := by decide +kernel
theorem dX8_isBout_1 : decode cX8_isBout 1 = .ok (.iconst 0, 1) := by decide +kernel
theorem dX8_isBout_2 : decode cX8_isBout 2 = .ok (.aload_n 0, 1) := by decide +kernel
theorem dX8_isBout_3 : decode cX8_isBout 3 = .ok (.getfield 92, 3) := by decide +kernel
theorem dX8_isBout_6 : decode cX8_isBout 6 = .ok (.iconst 1, 1) := by decide +kernel
theorem dX8_isBout_7 : decode cX8_isBout 7 = .ok (.isub, 1) := by decide +kernel
theorem dX8_isBout_8 : decode cX8_isBout 8 = .ok (.invokestatic 85, 3) := by decide +kernel
theorem dX8_isBout_11 : decode cX8_isBout 11 = .ok (.ifCond .ne 26, 3) := by decide +kernel
theorem dX8_isBout_14 : decode cX8_isBout 14 = .ok (.aload_n 0, 1) := by decide +kernel
theorem dX8_isBout_15 : decode cX8_isBout 15 = .ok (.getfield 95, 3) := by decide +kernel
theorem dX8_isBout_18 : decode cX8_isBout 18 = .ok (.ifCond .le 23, 3) := by decide +kernel
theorem dX8_isBout_21 : decode cX8_isBout 21 = .ok (.iload_n 1, 1) := by decide +kernel
theorem dX8_isBout_22 : decode cX8_isBout 22 = .ok (.bipush 101, 2) := by decide +kernel
theorem dX8_isBout_24 : decode cX8_isBout 24 = .ok (.bipush 99, 2) := by decide +kernel
theorem dX8_isBout_26 : decode cX8_isBout 26 = .ok (.aload_n 0, 1) := by decide +kernel
theorem dX8_isBout_27 : decode cX8_isBout 27 = .ok (.getfield 95, 3) := by decide +kernel
theorem dX8_isBout_30 : decode cX8_isBout 30 = .ok (.iadd, 1) := by decide +kernel
theorem dX8_isBout_31 : decode cX8_isBout 31 = .ok (.invokestatic 85, 3) := by decide +kernel
theorem dX8_isBout_34 : decode cX8_isBout 34 = .ok (.ifCond .eq 7, 3) := by decide +kernel
theorem dX8_isBout_37 : decode cX8_isBout 37 = .ok (.iconst 1, 1) := by decide +kernel
theorem dX8_isBout_38 : decode cX8_isBout 38 = .ok (.goto 4, 3) := by decide +kernel
theorem dX8_isBout_41 : decode cX8_isBout 41 = .ok (.iconst 0, 1) := by decide +kernel
theorem dX8_isBout_42 : decode cX8_isBout 42 = .ok (.ireturn, 1) := by decide +kernel
theorem dX8_slotOf_0 : decode cX8_slotOf 0 = .ok (.iload_n 0, 1) := by decide +kernel
theorem dX8_slotOf_1 : decode cX8_slotOf 1 = .ok (.bipush 100, 2) := by decide +kernel
theorem dX8_slotOf_3 : decode cX8_slotOf 3 = .ok (.if_icmp .lt 13, 3) := by decide +kernel
theorem dX8_slotOf_6 : decode cX8_slotOf 6 = .ok (.bipush 66, 2) := by decide +kernel
theorem dX8_slotOf_8 : decode cX8_slotOf 8 = .ok (.iload_n 0, 1) := by decide +kernel
theorem dX8_slotOf_9 : decode cX8_slotOf 9 = .ok (.iadd, 1) := by decide +kernel
theorem dX8_slotOf_10 : decode cX8_slotOf 10 = .ok (.bipush 100, 2) := by decide +kernel
theorem dX8_slotOf_12 : decode cX8_slotOf 12 = .ok (.isub, 1) := by decide +kernel
theorem dX8_slotOf_13 : decode cX8_slotOf 13 = .ok (.goto 4, 3) := by decide +kernel
theorem dX8_slotOf_16 : decode cX8_slotOf 16 = .ok (.iload_n 0, 1) := by decide +kernel
theorem dX8_slotOf_17 : decode cX8_slotOf 17 = .ok (.ireturn, 1) := by decide +kernel
theorem dX8_fencer_0 : decode cX8_fencer 0 = .ok (.aload_n 0, 1) := by decide +kernel
theorem dX8_fencer_1 : decode cX8_fencer 1 = .ok (.aload_n 0, 1) := by decide +kernel
theorem dX8_fencer_2 : decode cX8_fencer 2 = .ok (.getfield 82, 3) := by decide +kernel
theorem dX8_fencer_5 : decode cX8_fencer 5 = .ok (.bipush 12, 2) := by decide +kernel
theorem dX8_fencer_7 : decode cX8_fencer 7 = .ok (.if_icmp .ge 14, 3) := by decide +kernel
theorem dX8_fencer_10 : decode cX8_fencer 10 = .ok (.aload_n 0, 1) := by decide +kernel
theorem dX8_fencer_11 : decode cX8_fencer 11 = .ok (.getfield 98, 3) := by decide +kernel
theorem dX8_fencer_14 : decode cX8_fencer 14 = .ok (.ifCond .ne 7, 3) := by decide +kernel
theorem dX8_fencer_17 : decode cX8_fencer 17 = .ok (.iconst 1, 1) := by decide +kernel
theorem dX8_fencer_18 : decode cX8_fencer 18 = .ok (.goto 4, 3) := by decide +kernel
theorem dX8_fencer_21 : decode cX8_fencer 21 = .ok (.iconst 0, 1) := by decide +kernel
theorem dX8_fencer_22 : decode cX8_fencer 22 = .ok (.iconst 1, 1) := by decide +kernel
theorem dX8_fencer_23 : decode cX8_fencer 23 = .ok (.iconst 1, 1) := by decide +kernel
theorem dX8_fencer_24 : decode cX8_fencer 24 = .ok (.invokevirtual 101, 3) := by decide +kernel
theorem dX8_fencer_27 : decode cX8_fencer 27 = .ok (.ifCond .ne 5, 3) := by decide +kernel
theorem dX8_fencer_30 : decode cX8_fencer 30 = .ok (.iconst 0, 1) := by decide +kernel
theorem dX8_fencer_31 : decode cX8_fencer 31 = .ok (.ireturn, 1) := by decide +kernel
theorem dX8_fencer_32 : decode cX8_fencer 32 = .ok (.aload_n 0, 1) := by decide +kernel
theorem dX8_fencer_33 : decode cX8_fencer 33 = .ok (.dup, 1) := by decide +kernel
theorem dX8_fencer_34 : decode cX8_fencer 34 = .ok (.getfield 82, 3) := by decide +kernel
theorem dX8_fencer_37 : decode cX8_fencer 37 = .ok (.iconst 1, 1) := by decide +kernel
theorem dX8_fencer_38 : decode cX8_fencer 38 = .ok (.iadd, 1) := by decide +kernel
theorem dX8_fencer_39 : decode cX8_fencer 39 = .ok (.putfield 82, 3) := by decide +kernel
theorem dX8_fencer_42 : decode cX8_fencer 42 = .ok (.aload_n 0, 1) := by decide +kernel
theorem dX8_fencer_43 : decode cX8_fencer 43 = .ok (.getfield 82, 3) := by decide +kernel
theorem dX8_fencer_46 : decode cX8_fencer 46 = .ok (.iconst 1, 1) := by decide +kernel
theorem dX8_fencer_47 : decode cX8_fencer 47 = .ok (.isub, 1) := by decide +kernel
theorem dX8_fencer_48 : decode cX8_fencer 48 = .ok (.ireturn, 1) := by decide +kernel
theorem dX8_weapon_0 : decode cX8_weapon 0 = .ok (.aload_n 0, 1) := by decide +kernel
theorem dX8_weapon_1 : decode cX8_weapon 1 = .ok (.aload_n 0, 1) := by decide +kernel
theorem dX8_weapon_2 : decode cX8_weapon 2 = .ok (.iload_n 1, 1) := by decide +kernel
theorem dX8_weapon_3 : decode cX8_weapon 3 = .ok (.invokevirtual 105, 3) := by decide +kernel
theorem dX8_weapon_6 : decode cX8_weapon 6 = .ok (.aload_n 0, 1) := by decide +kernel
theorem dX8_weapon_7 : decode cX8_weapon 7 = .ok (.getfield 89, 3) := by decide +kernel
theorem dX8_weapon_10 : decode cX8_weapon 10 = .ok (.bipush 24, 2) := by decide +kernel
theorem dX8_weapon_12 : decode cX8_weapon 12 = .ok (.if_icmp .ge 7, 3) := by decide +kernel
theorem dX8_weapon_15 : decode cX8_weapon 15 = .ok (.iconst 1, 1) := by decide +kernel
theorem dX8_weapon_16 : decode cX8_weapon 16 = .ok (.goto 4, 3) := by decide +kernel
theorem dX8_weapon_19 : decode cX8_weapon 19 = .ok (.iconst 0, 1) := by decide +kernel
theorem dX8_weapon_20 : decode cX8_weapon 20 = .ok (.iconst 1, 1) := by decide +kernel
theorem dX8_weapon_21 : decode cX8_weapon 21 = .ok (.invokevirtual 101, 3) := by decide +kernel
theorem dX8_weapon_24 : decode cX8_weapon 24 = .ok (.ifCond .ne 5, 3) := by decide +kernel
theorem dX8_weapon_27 : decode cX8_weapon 27 = .ok (.iconst 0, 1) := by decide +kernel
theorem dX8_weapon_28 : decode cX8_weapon 28 = .ok (.ireturn, 1) := by decide +kernel
theorem dX8_weapon_29 : decode cX8_weapon 29 = .ok (.aload_n 0, 1) := by decide +kernel
theorem dX8_weapon_30 : decode cX8_weapon 30 = .ok (.getfield 7, 3) := by decide +kernel
theorem dX8_weapon_33 : decode cX8_weapon 33 = .ok (.aload_n 0, 1) := by decide +kernel
theorem dX8_weapon_34 : decode cX8_weapon 34 = .ok (.getfield 89, 3) := by decide +kernel
theorem dX8_weapon_37 : decode cX8_weapon 37 = .ok (.iload_n 1, 1) := by decide +kernel
theorem dX8_weapon_38 : decode cX8_weapon 38 = .ok (.iastore, 1) := by decide +kernel
theorem dX8_weapon_39 : decode cX8_weapon 39 = .ok (.aload_n 0, 1) := by decide +kernel
theorem dX8_weapon_40 : decode cX8_weapon 40 = .ok (.getfield 13, 3) := by decide +kernel
theorem dX8_weapon_43 : decode cX8_weapon 43 = .ok (.aload_n 0, 1) := by decide +kernel
theorem dX8_weapon_44 : decode cX8_weapon 44 = .ok (.getfield 89, 3) := by decide +kernel
theorem dX8_weapon_47 : decode cX8_weapon 47 = .ok (.iconst 0, 1) := by decide +kernel
theorem dX8_weapon_48 : decode cX8_weapon 48 = .ok (.iastore, 1) := by decide +kernel
theorem dX8_weapon_49 : decode cX8_weapon 49 = .ok (.aload_n 0, 1) := by decide +kernel
theorem dX8_weapon_50 : decode cX8_weapon 50 = .ok (.dup, 1) := by decide +kernel
theorem dX8_weapon_51 : decode cX8_weapon 51 = .ok (.getfield 89, 3) := by decide +kernel
theorem dX8_weapon_54 : decode cX8_weapon 54 = .ok (.iconst 1, 1) := by decide +kernel
theorem dX8_weapon_55 : decode cX8_weapon 55 = .ok (.iadd, 1) := by decide +kernel
theorem dX8_weapon_56 : decode cX8_weapon 56 = .ok (.putfield 89, 3) := by decide +kernel
theorem dX8_weapon_59 : decode cX8_weapon 59 = .ok (.aload_n 0, 1) := by decide +kernel
theorem dX8_weapon_60 : decode cX8_weapon 60 = .ok (.getfield 89, 3) := by decide +kernel
theorem dX8_weapon_63 : decode cX8_weapon 63 = .ok (.iconst 1, 1) := by decide +kernel
theorem dX8_weapon_64 : decode cX8_weapon 64 = .ok (.isub, 1) := by decide +kernel
theorem dX8_weapon_65 : decode cX8_weapon 65 = .ok (.ireturn, 1) := by decide +kernel
theorem dX8_test_0 : decode cX8_test 0 = .ok (.aload_n 0, 1) := by decide +kernel
theorem dX8_test_1 : decode cX8_test 1 = .ok (.iload_n 1, 1) := by decide +kernel
theorem dX8_test_2 : decode cX8_test 2 = .ok (.invokevirtual 109, 3) := by decide +kernel
theorem dX8_test_5 : decode cX8_test 5 = .ok (.istore 4, 2) := by decide +kernel
theorem dX8_test_7 : decode cX8_test 7 = .ok (.aload_n 0, 1) := by decide +kernel
theorem dX8_test_8 : decode cX8_test 8 = .ok (.iload 4, 2) := by decide +kernel
theorem dX8_test_10 : decode cX8_test 10 = .ok (.iload_n 2, 1) := by decide +kernel
theorem dX8_test_11 : decode cX8_test 11 = .ok (.iconst 0, 1) := by decide +kernel
theorem dX8_test_12 : decode cX8_test 12 = .ok (.sipush 2000, 3) := by decide +kernel
theorem dX8_test_15 : decode cX8_test 15 = .ok (.invokestatic 85, 3) := by decide +kernel
theorem dX8_test_18 : decode cX8_test 18 = .ok (.ifCond .eq 17, 3) := by decide +kernel
theorem dX8_test_21 : decode cX8_test 21 = .ok (.iload_n 3, 1) := by decide +kernel
theorem dX8_test_22 : decode cX8_test 22 = .ok (.iconst 0, 1) := by decide +kernel
theorem dX8_test_23 : decode cX8_test 23 = .ok (.bipush 100, 2) := by decide +kernel
theorem dX8_test_25 : decode cX8_test 25 = .ok (.invokestatic 85, 3) := by decide +kernel
theorem dX8_test_28 : decode cX8_test 28 = .ok (.ifCond .eq 7, 3) := by decide +kernel
theorem dX8_test_31 : decode cX8_test 31 = .ok (.iconst 1, 1) := by decide +kernel
theorem dX8_test_32 : decode cX8_test 32 = .ok (.goto 4, 3) := by decide +kernel
theorem dX8_test_35 : decode cX8_test 35 = .ok (.iconst 0, 1) := by decide +kernel
theorem dX8_test_36 : decode cX8_test 36 = .ok (.iload 4, 2) := by decide +kernel
theorem dX8_test_38 : decode cX8_test 38 = .ok (.ifCond .eq 24, 3) := by decide +kernel
theorem dX8_test_41 : decode cX8_test 41 = .ok (.aload_n 0, 1) := by decide +kernel
theorem dX8_test_42 : decode cX8_test 42 = .ok (.getfield 13, 3) := by decide +kernel
theorem dX8_test_45 : decode cX8_test 45 = .ok (.iload_n 1, 1) := by decide +kernel
theorem dX8_test_46 : decode cX8_test 46 = .ok (.iaload, 1) := by decide +kernel
theorem dX8_test_47 : decode cX8_test 47 = .ok (.iconst 2, 1) := by decide +kernel
theorem dX8_test_48 : decode cX8_test 48 = .ok (.if_icmp .eq 14, 3) := by decide +kernel
theorem dX8_test_51 : decode cX8_test 51 = .ok (.aload_n 0, 1) := by decide +kernel
theorem dX8_test_52 : decode cX8_test 52 = .ok (.getfield 112, 3) := by decide +kernel
theorem dX8_test_55 : decode cX8_test 55 = .ok (.ifCond .ne 7, 3) := by decide +kernel
theorem dX8_test_58 : decode cX8_test 58 = .ok (.iconst 1, 1) := by decide +kernel
theorem dX8_test_59 : decode cX8_test 59 = .ok (.goto 4, 3) := by decide +kernel
theorem dX8_test_62 : decode cX8_test 62 = .ok (.iconst 0, 1) := by decide +kernel
theorem dX8_test_63 : decode cX8_test 63 = .ok (.invokevirtual 101, 3) := by decide +kernel
theorem dX8_test_66 : decode cX8_test 66 = .ok (.ifCond .ne 5, 3) := by decide +kernel
theorem dX8_test_69 : decode cX8_test 69 = .ok (.iconst 0, 1) := by decide +kernel
theorem dX8_test_70 : decode cX8_test 70 = .ok (.ireturn, 1) := by decide +kernel
theorem dX8_test_71 : decode cX8_test 71 = .ok (.iload_n 2, 1) := by decide +kernel
theorem dX8_test_72 : decode cX8_test 72 = .ok (.sipush 500, 3) := by decide +kernel
theorem dX8_test_75 : decode cX8_test 75 = .ok (.sipush 770, 3) := by decide +kernel
theorem dX8_test_78 : decode cX8_test 78 = .ok (.invokestatic 85, 3) := by decide +kernel
theorem dX8_test_81 : decode cX8_test 81 = .ok (.ifCond .eq 13, 3) := by decide +kernel
theorem dX8_test_84 : decode cX8_test 84 = .ok (.iload_n 3, 1) := by decide +kernel
theorem dX8_test_85 : decode cX8_test 85 = .ok (.bipush 15, 2) := by decide +kernel
theorem dX8_test_87 : decode cX8_test 87 = .ok (.if_icmp .gt 7, 3) := by decide +kernel
theorem dX8_test_90 : decode cX8_test 90 = .ok (.iconst 1, 1) := by decide +kernel
theorem dX8_test_91 : decode cX8_test 91 = .ok (.goto 4, 3) := by decide +kernel
theorem dX8_test_94 : decode cX8_test 94 = .ok (.iconst 0, 1) := by decide +kernel
theorem dX8_test_95 : decode cX8_test 95 = .ok (.istore 5, 2) := by decide +kernel
theorem dX8_test_97 : decode cX8_test 97 = .ok (.aload_n 0, 1) := by decide +kernel
theorem dX8_test_98 : decode cX8_test 98 = .ok (.getfield 13, 3) := by decide +kernel
theorem dX8_test_101 : decode cX8_test 101 = .ok (.iload_n 1, 1) := by decide +kernel
theorem dX8_test_102 : decode cX8_test 102 = .ok (.iload 5, 2) := by decide +kernel
theorem dX8_test_104 : decode cX8_test 104 = .ok (.ifCond .eq 7, 3) := by decide +kernel
theorem dX8_test_107 : decode cX8_test 107 = .ok (.iconst 1, 1) := by decide +kernel
theorem dX8_test_108 : decode cX8_test 108 = .ok (.goto 4, 3) := by decide +kernel
theorem dX8_test_111 : decode cX8_test 111 = .ok (.iconst 2, 1) := by decide +kernel
theorem dX8_test_112 : decode cX8_test 112 = .ok (.iastore, 1) := by decide +kernel
theorem dX8_test_113 : decode cX8_test 113 = .ok (.aload_n 0, 1) := by decide +kernel
theorem dX8_test_114 : decode cX8_test 114 = .ok (.getfield 16, 3) := by decide +kernel
theorem dX8_test_117 : decode cX8_test 117 = .ok (.iload_n 1, 1) := by decide +kernel
theorem dX8_test_118 : decode cX8_test 118 = .ok (.iload 5, 2) := by decide +kernel
theorem dX8_test_120 : decode cX8_test 120 = .ok (.ifCond .ne 14, 3) := by decide +kernel
theorem dX8_test_123 : decode cX8_test 123 = .ok (.aload_n 0, 1) := by decide +kernel
theorem dX8_test_124 : decode cX8_test 124 = .ok (.getfield 95, 3) := by decide +kernel
theorem dX8_test_127 : decode cX8_test 127 = .ok (.ifCond .ne 7, 3) := by decide +kernel
theorem dX8_test_130 : decode cX8_test 130 = .ok (.iconst 1, 1) := by decide +kernel
theorem dX8_test_131 : decode cX8_test 131 = .ok (.goto 4, 3) := by decide +kernel
theorem dX8_test_134 : decode cX8_test 134 = .ok (.iconst 0, 1) := by decide +kernel
theorem dX8_test_135 : decode cX8_test 135 = .ok (.bastore, 1) := by decide +kernel
theorem dX8_test_136 : decode cX8_test 136 = .ok (.aload_n 0, 1) := by decide +kernel
theorem dX8_test_137 : decode cX8_test 137 = .ok (.invokevirtual 115, 3) := by decide +kernel
theorem dX8_test_140 : decode cX8_test 140 = .ok (.iload 5, 2) := by decide +kernel
theorem dX8_test_142 : decode cX8_test 142 = .ok (.ireturn, 1) := by decide +kernel
theorem dX8_fencers_0 : decode cX8_fencers 0 = .ok (.aload_n 0, 1) := by decide +kernel
theorem dX8_fencers_1 : decode cX8_fencers 1 = .ok (.iconst 0, 1) := by decide +kernel
theorem dX8_fencers_2 : decode cX8_fencers 2 = .ok (.putfield 79, 3) := by decide +kernel
theorem dX8_fencers_5 : decode cX8_fencers 5 = .ok (.aload_n 0, 1) := by decide +kernel
theorem dX8_fencers_6 : decode cX8_fencers 6 = .ok (.getfield 82, 3) := by decide +kernel
theorem dX8_fencers_9 : decode cX8_fencers 9 = .ok (.ireturn, 1) := by decide +kernel
theorem dX8_mark_0 : decode cX8_mark 0 = .ok (.aload_n 0, 1) := by decide +kernel
theorem dX8_mark_1 : decode cX8_mark 1 = .ok (.aload_n 0, 1) := by decide +kernel
theorem dX8_mark_2 : decode cX8_mark 2 = .ok (.iload_n 1, 1) := by decide +kernel
theorem dX8_mark_3 : decode cX8_mark 3 = .ok (.invokevirtual 109, 3) := by decide +kernel
theorem dX8_mark_6 : decode cX8_mark 6 = .ok (.iconst 1, 1) := by decide +kernel
theorem dX8_mark_7 : decode cX8_mark 7 = .ok (.iconst 1, 1) := by decide +kernel
theorem dX8_mark_8 : decode cX8_mark 8 = .ok (.invokevirtual 101, 3) := by decide +kernel
theorem dX8_mark_11 : decode cX8_mark 11 = .ok (.ifCond .eq 12, 3) := by decide +kernel
theorem dX8_mark_14 : decode cX8_mark 14 = .ok (.aload_n 0, 1) := by decide +kernel
theorem dX8_mark_15 : decode cX8_mark 15 = .ok (.getfield 13, 3) := by decide +kernel
theorem dX8_mark_18 : decode cX8_mark 18 = .ok (.iload_n 1, 1) := by decide +kernel
theorem dX8_mark_19 : decode cX8_mark 19 = .ok (.iaload, 1) := by decide +kernel
theorem dX8_mark_20 : decode cX8_mark 20 = .ok (.goto 4, 3) := by decide +kernel
theorem dX8_mark_23 : decode cX8_mark 23 = .ok (.iconst 0, 1) := by decide +kernel
theorem dX8_mark_24 : decode cX8_mark 24 = .ok (.ireturn, 1) := by decide +kernel
theorem dX8_owner_0 : decode cX8_owner 0 = .ok (.aload_n 0, 1) := by decide +kernel
theorem dX8_owner_1 : decode cX8_owner 1 = .ok (.aload_n 0, 1) := by decide +kernel
theorem dX8_owner_2 : decode cX8_owner 2 = .ok (.iload_n 1, 1) := by decide +kernel
theorem dX8_owner_3 : decode cX8_owner 3 = .ok (.invokevirtual 109, 3) := by decide +kernel
theorem dX8_owner_6 : decode cX8_owner 6 = .ok (.iconst 1, 1) := by decide +kernel
theorem dX8_owner_7 : decode cX8_owner 7 = .ok (.iconst 1, 1) := by decide +kernel
theorem dX8_owner_8 : decode cX8_owner 8 = .ok (.invokevirtual 101, 3) := by decide +kernel
theorem dX8_owner_11 : decode cX8_owner 11 = .ok (.ifCond .eq 12, 3) := by decide +kernel
theorem dX8_owner_14 : decode cX8_owner 14 = .ok (.aload_n 0, 1) := by decide +kernel
theorem dX8_owner_15 : decode cX8_owner 15 = .ok (.getfield 7, 3) := by decide +kernel
theorem dX8_owner_18 : decode cX8_owner 18 = .ok (.iload_n 1, 1) := by decide +kernel
theorem dX8_owner_19 : decode cX8_owner 19 = .ok (.iaload, 1) := by decide +kernel
theorem dX8_owner_20 : decode cX8_owner 20 = .ok (.goto 4, 3) := by decide +kernel
theorem dX8_owner_23 : decode cX8_owner 23 = .ok (.iconst 0, 1) := by decide +kernel
theorem dX8_owner_24 : decode cX8_owner 24 = .ok (.ireturn, 1) := by decide +kernel
theorem dX8_counts_0 : decode cX8_counts 0 = .ok (.aload_n 0, 1) := by decide +kernel
theorem dX8_counts_1 : decode cX8_counts 1 = .ok (.getfield 41, 3) := by decide +kernel
theorem dX8_counts_4 : decode cX8_counts 4 = .ok (.iload_n 1, 1) := by decide +kernel
theorem dX8_counts_5 : decode cX8_counts 5 = .ok (.iaload, 1) := by decide +kernel
theorem dX8_counts_6 : decode cX8_counts 6 = .ok (.iconst 2, 1) := by decide +kernel
theorem dX8_counts_7 : decode cX8_counts 7 = .ok (.idiv, 1) := by decide +kernel
theorem dX8_counts_8 : decode cX8_counts 8 = .ok (.iload_n 2, 1) := by decide +kernel
theorem dX8_counts_9 : decode cX8_counts 9 = .ok (.if_icmp .ne 26, 3) := by decide +kernel
theorem dX8_counts_12 : decode cX8_counts 12 = .ok (.aload_n 0, 1) := by decide +kernel
theorem dX8_counts_13 : decode cX8_counts 13 = .ok (.getfield 75, 3) := by decide +kernel
theorem dX8_counts_16 : decode cX8_counts 16 = .ok (.ifCond .ne 15, 3) := by decide +kernel
theorem dX8_counts_19 : decode cX8_counts 19 = .ok (.aload_n 0, 1) := by decide +kernel
theorem dX8_counts_20 : decode cX8_counts 20 = .ok (.getfield 41, 3) := by decide +kernel
theorem dX8_counts_23 : decode cX8_counts 23 = .ok (.iload_n 1, 1) := by decide +kernel
theorem dX8_counts_24 : decode cX8_counts 24 = .ok (.iaload, 1) := by decide +kernel
theorem dX8_counts_25 : decode cX8_counts 25 = .ok (.iconst 2, 1) := by decide +kernel
theorem dX8_counts_26 : decode cX8_counts 26 = .ok (.irem, 1) := by decide +kernel
theorem dX8_counts_27 : decode cX8_counts 27 = .ok (.iconst 1, 1) := by decide +kernel
theorem dX8_counts_28 : decode cX8_counts 28 = .ok (.if_icmp .ne 7, 3) := by decide +kernel
theorem dX8_counts_31 : decode cX8_counts 31 = .ok (.iconst 1, 1) := by decide +kernel
theorem dX8_counts_32 : decode cX8_counts 32 = .ok (.goto 4, 3) := by decide +kernel
theorem dX8_counts_35 : decode cX8_counts 35 = .ok (.iconst 0, 1) := by decide +kernel
theorem dX8_counts_36 : decode cX8_counts 36 = .ok (.ireturn, 1) := by decide +kernel
theorem dX8_judged_0 : decode cX8_judged 0 = .ok (.bipush 8, 2) := by decide +kernel
theorem dX8_judged_2 : decode cX8_judged 2 = .ok (.iload_n 1, 1) := by decide +kernel
theorem dX8_judged_3 : decode cX8_judged 3 = .ok (.imul, 1) := by decide +kernel
theorem dX8_judged_4 : decode cX8_judged 4 = .ok (.istore_n 2, 1) := by decide +kernel
theorem dX8_judged_5 : decode cX8_judged 5 = .ok (.iload_n 2, 1) := by decide +kernel
theorem dX8_judged_6 : decode cX8_judged 6 = .ok (.aload_n 0, 1) := by decide +kernel
theorem dX8_judged_7 : decode cX8_judged 7 = .ok (.getfield 32, 3) := by decide +kernel
theorem dX8_judged_10 : decode cX8_judged 10 = .ok (.iload_n 1, 1) := by decide +kernel
theorem dX8_judged_11 : decode cX8_judged 11 = .ok (.iaload, 1) := by decide +kernel
theorem dX8_judged_12 : decode cX8_judged 12 = .ok (.iadd, 1) := by decide +kernel
theorem dX8_judged_13 : decode cX8_judged 13 = .ok (.istore_n 3, 1) := by decide +kernel
theorem dX8_judged_14 : decode cX8_judged 14 = .ok (.iconst (-1), 1) := by decide +kernel
theorem dX8_judged_15 : decode cX8_judged 15 = .ok (.istore 4, 2) := by decide +kernel
theorem dX8_judged_17 : decode cX8_judged 17 = .ok (.iconst (-1), 1) := by decide +kernel
theorem dX8_judged_18 : decode cX8_judged 18 = .ok (.istore 5, 2) := by decide +kernel
theorem dX8_judged_20 : decode cX8_judged 20 = .ok (.iload_n 2, 1) := by decide +kernel
theorem dX8_judged_21 : decode cX8_judged 21 = .ok (.istore 6, 2) := by decide +kernel
theorem dX8_judged_23 : decode cX8_judged 23 = .ok (.iload 6, 2) := by decide +kernel
theorem dX8_judged_25 : decode cX8_judged 25 = .ok (.iload_n 3, 1) := by decide +kernel
theorem dX8_judged_26 : decode cX8_judged 26 = .ok (.if_icmp .ge 70, 3) := by decide +kernel
theorem dX8_judged_29 : decode cX8_judged 29 = .ok (.iload 4, 2) := by decide +kernel
theorem dX8_judged_31 : decode cX8_judged 31 = .ok (.iconst (-1), 1) := by decide +kernel
theorem dX8_judged_32 : decode cX8_judged 32 = .ok (.if_icmp .ne 64, 3) := by decide +kernel
theorem dX8_judged_35 : decode cX8_judged 35 = .ok (.aload_n 0, 1) := by decide +kernel
theorem dX8_judged_36 : decode cX8_judged 36 = .ok (.iload 6, 2) := by decide +kernel
theorem dX8_judged_38 : decode cX8_judged 38 = .ok (.iconst 0, 1) := by decide +kernel
theorem dX8_judged_39 : decode cX8_judged 39 = .ok (.invokevirtual 118, 3) := by decide +kernel
theorem dX8_judged_42 : decode cX8_judged 42 = .ok (.ifCond .ne 13, 3) := by decide +kernel
theorem dX8_judged_45 : decode cX8_judged 45 = .ok (.aload_n 0, 1) := by decide +kernel
theorem dX8_judged_46 : decode cX8_judged 46 = .ok (.iload 6, 2) := by decide +kernel
theorem dX8_judged_48 : decode cX8_judged 48 = .ok (.iconst 1, 1) := by decide +kernel
theorem dX8_judged_49 : decode cX8_judged 49 = .ok (.invokevirtual 118, 3) := by decide +kernel
theorem dX8_judged_52 : decode cX8_judged 52 = .ok (.ifCond .eq 8, 3) := by decide +kernel
theorem dX8_judged_55 : decode cX8_judged 55 = .ok (.iload 6, 2) := by decide +kernel
theorem dX8_judged_57 : decode cX8_judged 57 = .ok (.goto 4, 3) := by decide +kernel
theorem dX8_judged_60 : decode cX8_judged 60 = .ok (.iconst (-1), 1) := by decide +kernel
theorem dX8_judged_61 : decode cX8_judged 61 = .ok (.istore 4, 2) := by decide +kernel
theorem dX8_judged_63 : decode cX8_judged 63 = .ok (.aload_n 0, 1) := by decide +kernel
theorem dX8_judged_64 : decode cX8_judged 64 = .ok (.getfield 41, 3) := by decide +kernel
theorem dX8_judged_67 : decode cX8_judged 67 = .ok (.iload 6, 2) := by decide +kernel
theorem dX8_judged_69 : decode cX8_judged 69 = .ok (.iaload, 1) := by decide +kernel
theorem dX8_judged_70 : decode cX8_judged 70 = .ok (.iconst 4, 1) := by decide +kernel
theorem dX8_judged_71 : decode cX8_judged 71 = .ok (.if_icmp .lt 15, 3) := by decide +kernel
theorem dX8_judged_74 : decode cX8_judged 74 = .ok (.aload_n 0, 1) := by decide +kernel
theorem dX8_judged_75 : decode cX8_judged 75 = .ok (.getfield 41, 3) := by decide +kernel
theorem dX8_judged_78 : decode cX8_judged 78 = .ok (.iload 6, 2) := by decide +kernel
theorem dX8_judged_80 : decode cX8_judged 80 = .ok (.iaload, 1) := by decide +kernel
theorem dX8_judged_81 : decode cX8_judged 81 = .ok (.iconst 5, 1) := by decide +kernel
theorem dX8_judged_82 : decode cX8_judged 82 = .ok (.isub, 1) := by decide +kernel
theorem dX8_judged_83 : decode cX8_judged 83 = .ok (.goto 5, 3) := by decide +kernel
theorem dX8_judged_86 : decode cX8_judged 86 = .ok (.iload 5, 2) := by decide +kernel
theorem dX8_judged_88 : decode cX8_judged 88 = .ok (.istore 5, 2) := by decide +kernel
theorem dX8_judged_90 : decode cX8_judged 90 = .ok (.iinc 6 1, 3) := by decide +kernel
theorem dX8_judged_93 : decode cX8_judged 93 = .ok (.goto (-70), 3) := by decide +kernel
theorem dX8_judged_96 : decode cX8_judged 96 = .ok (.iload 4, 2) := by decide +kernel
theorem dX8_judged_98 : decode cX8_judged 98 = .ok (.iconst (-1), 1) := by decide +kernel
theorem dX8_judged_99 : decode cX8_judged 99 = .ok (.if_icmp .ne 5, 3) := by decide +kernel
theorem dX8_judged_102 : decode cX8_judged 102 = .ok (.iconst 0, 1) := by decide +kernel
theorem dX8_judged_103 : decode cX8_judged 103 = .ok (.ireturn, 1) := by decide +kernel
theorem dX8_judged_104 : decode cX8_judged 104 = .ok (.aload_n 0, 1) := by decide +kernel
theorem dX8_judged_105 : decode cX8_judged 105 = .ok (.getfield 41, 3) := by decide +kernel
theorem dX8_judged_108 : decode cX8_judged 108 = .ok (.iload 4, 2) := by decide +kernel
theorem dX8_judged_110 : decode cX8_judged 110 = .ok (.iaload, 1) := by decide +kernel
theorem dX8_judged_111 : decode cX8_judged 111 = .ok (.iconst 2, 1) := by decide +kernel
theorem dX8_judged_112 : decode cX8_judged 112 = .ok (.idiv, 1) := by decide +kernel
theorem dX8_judged_113 : decode cX8_judged 113 = .ok (.istore 6, 2) := by decide +kernel
theorem dX8_judged_115 : decode cX8_judged 115 = .ok (.iconst (-1), 1) := by decide +kernel
theorem dX8_judged_116 : decode cX8_judged 116 = .ok (.istore 7, 2) := by decide +kernel
theorem dX8_judged_118 : decode cX8_judged 118 = .ok (.iload 4, 2) := by decide +kernel
theorem dX8_judged_120 : decode cX8_judged 120 = .ok (.iconst 1, 1) := by decide +kernel
theorem dX8_judged_121 : decode cX8_judged 121 = .ok (.iadd, 1) := by decide +kernel
theorem dX8_judged_122 : decode cX8_judged 122 = .ok (.istore 8, 2) := by decide +kernel
theorem dX8_judged_124 : decode cX8_judged 124 = .ok (.iload 8, 2) := by decide +kernel
theorem dX8_judged_126 : decode cX8_judged 126 = .ok (.iload_n 3, 1) := by decide +kernel
theorem dX8_judged_127 : decode cX8_judged 127 = .ok (.if_icmp .ge 36, 3) := by decide +kernel
theorem dX8_judged_130 : decode cX8_judged 130 = .ok (.iload 7, 2) := by decide +kernel
theorem dX8_judged_132 : decode cX8_judged 132 = .ok (.iconst (-1), 1) := by decide +kernel
theorem dX8_judged_133 : decode cX8_judged 133 = .ok (.if_icmp .ne 30, 3) := by decide +kernel
theorem dX8_judged_136 : decode cX8_judged 136 = .ok (.aload_n 0, 1) := by decide +kernel
theorem dX8_judged_137 : decode cX8_judged 137 = .ok (.iload 8, 2) := by decide +kernel
theorem dX8_judged_139 : decode cX8_judged 139 = .ok (.iconst 1, 1) := by decide +kernel
theorem dX8_judged_140 : decode cX8_judged 140 = .ok (.iload 6, 2) := by decide +kernel
theorem dX8_judged_142 : decode cX8_judged 142 = .ok (.isub, 1) := by decide +kernel
theorem dX8_judged_143 : decode cX8_judged 143 = .ok (.invokevirtual 118, 3) := by decide +kernel
theorem dX8_judged_146 : decode cX8_judged 146 = .ok (.ifCond .eq 8, 3) := by decide +kernel
theorem dX8_judged_149 : decode cX8_judged 149 = .ok (.iload 8, 2) := by decide +kernel
theorem dX8_judged_151 : decode cX8_judged 151 = .ok (.goto 4, 3) := by decide +kernel
theorem dX8_judged_154 : decode cX8_judged 154 = .ok (.iconst (-1), 1) := by decide +kernel
theorem dX8_judged_155 : decode cX8_judged 155 = .ok (.istore 7, 2) := by decide +kernel
theorem dX8_judged_157 : decode cX8_judged 157 = .ok (.iinc 8 1, 3) := by decide +kernel
theorem dX8_judged_160 : decode cX8_judged 160 = .ok (.goto (-36), 3) := by decide +kernel
theorem dX8_judged_163 : decode cX8_judged 163 = .ok (.iload 7, 2) := by decide +kernel
theorem dX8_judged_165 : decode cX8_judged 165 = .ok (.iconst (-1), 1) := by decide +kernel
theorem dX8_judged_166 : decode cX8_judged 166 = .ok (.if_icmp .eq 40, 3) := by decide +kernel
theorem dX8_judged_169 : decode cX8_judged 169 = .ok (.aload_n 0, 1) := by decide +kernel
theorem dX8_judged_170 : decode cX8_judged 170 = .ok (.getfield 44, 3) := by decide +kernel
theorem dX8_judged_173 : decode cX8_judged 173 = .ok (.iload 7, 2) := by decide +kernel
theorem dX8_judged_175 : decode cX8_judged 175 = .ok (.iaload, 1) := by decide +kernel
theorem dX8_judged_176 : decode cX8_judged 176 = .ok (.aload_n 0, 1) := by decide +kernel
theorem dX8_judged_177 : decode cX8_judged 177 = .ok (.getfield 44, 3) := by decide +kernel
theorem dX8_judged_180 : decode cX8_judged 180 = .ok (.iload 4, 2) := by decide +kernel
theorem dX8_judged_182 : decode cX8_judged 182 = .ok (.iaload, 1) := by decide +kernel
theorem dX8_judged_183 : decode cX8_judged 183 = .ok (.isub, 1) := by decide +kernel
theorem dX8_judged_184 : decode cX8_judged 184 = .ok (.aload_n 0, 1) := by decide +kernel
theorem dX8_judged_185 : decode cX8_judged 185 = .ok (.getfield 75, 3) := by decide +kernel
theorem dX8_judged_188 : decode cX8_judged 188 = .ok (.ifCond .eq 9, 3) := by decide +kernel
theorem dX8_judged_191 : decode cX8_judged 191 = .ok (.sipush 300, 3) := by decide +kernel
theorem dX8_judged_194 : decode cX8_judged 194 = .ok (.goto 5, 3) := by decide +kernel
theorem dX8_judged_197 : decode cX8_judged 197 = .ok (.bipush 40, 2) := by decide +kernel
theorem dX8_judged_199 : decode cX8_judged 199 = .ok (.if_icmp .gt 7, 3) := by decide +kernel
theorem dX8_judged_202 : decode cX8_judged 202 = .ok (.iconst 1, 1) := by decide +kernel
theorem dX8_judged_203 : decode cX8_judged 203 = .ok (.goto 4, 3) := by decide +kernel
theorem dX8_judged_206 : decode cX8_judged 206 = .ok (.iconst 0, 1) := by decide +kernel
theorem dX8_judged_207 : decode cX8_judged 207 = .ok (.istore 8, 2) := by decide +kernel
theorem dX8_judged_209 : decode cX8_judged 209 = .ok (.aload_n 0, 1) := by decide +kernel
theorem dX8_judged_210 : decode cX8_judged 210 = .ok (.getfield 38, 3) := by decide +kernel
theorem dX8_judged_213 : decode cX8_judged 213 = .ok (.iload_n 1, 1) := by decide +kernel
theorem dX8_judged_214 : decode cX8_judged 214 = .ok (.iaload, 1) := by decide +kernel
theorem dX8_judged_215 : decode cX8_judged 215 = .ok (.bipush (-2), 2) := by decide +kernel
theorem dX8_judged_217 : decode cX8_judged 217 = .ok (.if_icmp .ne 8, 3) := by decide +kernel
theorem dX8_judged_220 : decode cX8_judged 220 = .ok (.iload 5, 2) := by decide +kernel
theorem dX8_judged_222 : decode cX8_judged 222 = .ok (.goto 9, 3) := by decide +kernel
theorem dX8_judged_225 : decode cX8_judged 225 = .ok (.aload_n 0, 1) := by decide +kernel
theorem dX8_judged_226 : decode cX8_judged 226 = .ok (.getfield 38, 3) := by decide +kernel
theorem dX8_judged_229 : decode cX8_judged 229 = .ok (.iload_n 1, 1) := by decide +kernel
theorem dX8_judged_230 : decode cX8_judged 230 = .ok (.iaload, 1) := by decide +kernel
theorem dX8_judged_231 : decode cX8_judged 231 = .ok (.istore 5, 2) := by decide +kernel
theorem dX8_judged_233 : decode cX8_judged 233 = .ok (.iload 8, 2) := by decide +kernel
theorem dX8_judged_235 : decode cX8_judged 235 = .ok (.ifCond .ne 25, 3) := by decide +kernel
theorem dX8_judged_238 : decode cX8_judged 238 = .ok (.aload_n 0, 1) := by decide +kernel
theorem dX8_judged_239 : decode cX8_judged 239 = .ok (.getfield 41, 3) := by decide +kernel
theorem dX8_judged_242 : decode cX8_judged 242 = .ok (.iload 4, 2) := by decide +kernel
theorem dX8_judged_244 : decode cX8_judged 244 = .ok (.iaload, 1) := by decide +kernel
theorem dX8_judged_245 : decode cX8_judged 245 = .ok (.iconst 2, 1) := by decide +kernel
theorem dX8_judged_246 : decode cX8_judged 246 = .ok (.irem, 1) := by decide +kernel
theorem dX8_judged_247 : decode cX8_judged 247 = .ok (.iconst 1, 1) := by decide +kernel
theorem dX8_judged_248 : decode cX8_judged 248 = .ok (.if_icmp .ne 10, 3) := by decide +kernel
theorem dX8_judged_251 : decode cX8_judged 251 = .ok (.iconst 1, 1) := by decide +kernel
theorem dX8_judged_252 : decode cX8_judged 252 = .ok (.iload 6, 2) := by decide +kernel
theorem dX8_judged_254 : decode cX8_judged 254 = .ok (.ishl, 1) := by decide +kernel
theorem dX8_judged_255 : decode cX8_judged 255 = .ok (.goto 4, 3) := by decide +kernel
theorem dX8_judged_258 : decode cX8_judged 258 = .ok (.iconst 0, 1) := by decide +kernel
theorem dX8_judged_259 : decode cX8_judged 259 = .ok (.ireturn, 1) := by decide +kernel
theorem dX8_judged_260 : decode cX8_judged 260 = .ok (.aload_n 0, 1) := by decide +kernel
theorem dX8_judged_261 : decode cX8_judged 261 = .ok (.getfield 75, 3) := by decide +kernel
theorem dX8_judged_264 : decode cX8_judged 264 = .ok (.ifCond .ne 5, 3) := by decide +kernel
theorem dX8_judged_267 : decode cX8_judged 267 = .ok (.iconst 3, 1) := by decide +kernel
theorem dX8_judged_268 : decode cX8_judged 268 = .ok (.ireturn, 1) := by decide +kernel
theorem dX8_judged_269 : decode cX8_judged 269 = .ok (.iload 5, 2) := by decide +kernel
theorem dX8_judged_271 : decode cX8_judged 271 = .ok (.iload 6, 2) := by decide +kernel
theorem dX8_judged_273 : decode cX8_judged 273 = .ok (.if_icmp .ne 8, 3) := by decide +kernel
theorem dX8_judged_276 : decode cX8_judged 276 = .ok (.iload 4, 2) := by decide +kernel
theorem dX8_judged_278 : decode cX8_judged 278 = .ok (.goto 5, 3) := by decide +kernel
theorem dX8_judged_281 : decode cX8_judged 281 = .ok (.iload 7, 2) := by decide +kernel
theorem dX8_judged_283 : decode cX8_judged 283 = .ok (.istore 9, 2) := by decide +kernel
theorem dX8_judged_285 : decode cX8_judged 285 = .ok (.iload 5, 2) := by decide +kernel
theorem dX8_judged_287 : decode cX8_judged 287 = .ok (.iconst (-1), 1) := by decide +kernel
theorem dX8_judged_288 : decode cX8_judged 288 = .ok (.if_icmp .eq 23, 3) := by decide +kernel
theorem dX8_judged_291 : decode cX8_judged 291 = .ok (.aload_n 0, 1) := by decide +kernel
theorem dX8_judged_292 : decode cX8_judged 292 = .ok (.getfield 41, 3) := by decide +kernel
theorem dX8_judged_295 : decode cX8_judged 295 = .ok (.iload 9, 2) := by decide +kernel
theorem dX8_judged_297 : decode cX8_judged 297 = .ok (.iaload, 1) := by decide +kernel
theorem dX8_judged_298 : decode cX8_judged 298 = .ok (.iconst 2, 1) := by decide +kernel
theorem dX8_judged_299 : decode cX8_judged 299 = .ok (.irem, 1) := by decide +kernel
theorem dX8_judged_300 : decode cX8_judged 300 = .ok (.iconst 1, 1) := by decide +kernel
theorem dX8_judged_301 : decode cX8_judged 301 = .ok (.if_icmp .ne 10, 3) := by decide +kernel
theorem dX8_judged_304 : decode cX8_judged 304 = .ok (.iconst 1, 1) := by decide +kernel
theorem dX8_judged_305 : decode cX8_judged 305 = .ok (.iload 5, 2) := by decide +kernel
theorem dX8_judged_307 : decode cX8_judged 307 = .ok (.ishl, 1) := by decide +kernel
theorem dX8_judged_308 : decode cX8_judged 308 = .ok (.goto 4, 3) := by decide +kernel
theorem dX8_judged_311 : decode cX8_judged 311 = .ok (.iconst 0, 1) := by decide +kernel
theorem dX8_judged_312 : decode cX8_judged 312 = .ok (.ireturn, 1) := by decide +kernel
theorem dX8_strikes_0 : decode cX8_strikes 0 = .ok (.aload_n 0, 1) := by decide +kernel
theorem dX8_strikes_1 : decode cX8_strikes 1 = .ok (.getfield 13, 3) := by decide +kernel
theorem dX8_strikes_4 : decode cX8_strikes 4 = .ok (.iload_n 1, 1) := by decide +kernel
theorem dX8_strikes_5 : decode cX8_strikes 5 = .ok (.iaload, 1) := by decide +kernel
theorem dX8_strikes_6 : decode cX8_strikes 6 = .ok (.iconst 2, 1) := by decide +kernel
theorem dX8_strikes_7 : decode cX8_strikes 7 = .ok (.if_icmp .ne 20, 3) := by decide +kernel
theorem dX8_strikes_10 : decode cX8_strikes 10 = .ok (.iload_n 2, 1) := by decide +kernel
theorem dX8_strikes_11 : decode cX8_strikes 11 = .ok (.ifCond .eq 12, 3) := by decide +kernel
theorem dX8_strikes_14 : decode cX8_strikes 14 = .ok (.aload_n 0, 1) := by decide +kernel
theorem dX8_strikes_15 : decode cX8_strikes 15 = .ok (.getfield 16, 3) := by decide +kernel
theorem dX8_strikes_18 : decode cX8_strikes 18 = .ok (.iload_n 1, 1) := by decide +kernel
theorem dX8_strikes_19 : decode cX8_strikes 19 = .ok (.baload, 1) := by decide +kernel
theorem dX8_strikes_20 : decode cX8_strikes 20 = .ok (.ifCond .eq 7, 3) := by decide +kernel
theorem dX8_strikes_23 : decode cX8_strikes 23 = .ok (.iconst 1, 1) := by decide +kernel
theorem dX8_strikes_24 : decode cX8_strikes 24 = .ok (.goto 4, 3) := by decide +kernel
theorem dX8_strikes_27 : decode cX8_strikes 27 = .ok (.iconst 0, 1) := by decide +kernel
theorem dX8_strikes_28 : decode cX8_strikes 28 = .ok (.ireturn, 1) := by decide +kernel
theorem dX8_touched_0 : decode cX8_touched 0 = .ok (.bipush 12, 2) := by decide +kernel
theorem dX8_touched_2 : decode cX8_touched 2 = .ok (.iload_n 1, 1) := by decide +kernel
theorem dX8_touched_3 : decode cX8_touched 3 = .ok (.imul, 1) := by decide +kernel
theorem dX8_touched_4 : decode cX8_touched 4 = .ok (.iload_n 2, 1) := by decide +kernel
theorem dX8_touched_5 : decode cX8_touched 5 = .ok (.iadd, 1) := by decide +kernel
theorem dX8_touched_6 : decode cX8_touched 6 = .ok (.istore_n 3, 1) := by decide +kernel
theorem dX8_touched_7 : decode cX8_touched 7 = .ok (.aload_n 0, 1) := by decide +kernel
theorem dX8_touched_8 : decode cX8_touched 8 = .ok (.iload_n 3, 1) := by decide +kernel
theorem dX8_touched_9 : decode cX8_touched 9 = .ok (.invokevirtual 121, 3) := by decide +kernel
theorem dX8_touched_12 : decode cX8_touched 12 = .ok (.istore 4, 2) := by decide +kernel
theorem dX8_touched_14 : decode cX8_touched 14 = .ok (.iload 4, 2) := by decide +kernel
theorem dX8_touched_16 : decode cX8_touched 16 = .ok (.aload_n 0, 1) := by decide +kernel
theorem dX8_touched_17 : decode cX8_touched 17 = .ok (.aload_n 0, 1) := by decide +kernel
theorem dX8_touched_18 : decode cX8_touched 18 = .ok (.getfield 35, 3) := by decide +kernel
theorem dX8_touched_21 : decode cX8_touched 21 = .ok (.iconst 2, 1) := by decide +kernel
theorem dX8_touched_22 : decode cX8_touched 22 = .ok (.iload_n 3, 1) := by decide +kernel
theorem dX8_touched_23 : decode cX8_touched 23 = .ok (.imul, 1) := by decide +kernel
theorem dX8_touched_24 : decode cX8_touched 24 = .ok (.iaload, 1) := by decide +kernel
theorem dX8_touched_25 : decode cX8_touched 25 = .ok (.iload_n 1, 1) := by decide +kernel
theorem dX8_touched_26 : decode cX8_touched 26 = .ok (.bipush 66, 2) := by decide +kernel
theorem dX8_touched_28 : decode cX8_touched 28 = .ok (.if_icmp .ge 7, 3) := by decide +kernel
theorem dX8_touched_31 : decode cX8_touched 31 = .ok (.iconst 1, 1) := by decide +kernel
theorem dX8_touched_32 : decode cX8_touched 32 = .ok (.goto 4, 3) := by decide +kernel
theorem dX8_touched_35 : decode cX8_touched 35 = .ok (.iconst 0, 1) := by decide +kernel
theorem dX8_touched_36 : decode cX8_touched 36 = .ok (.invokevirtual 125, 3) := by decide +kernel
theorem dX8_touched_39 : decode cX8_touched 39 = .ok (.ifCond .eq 7, 3) := by decide +kernel
theorem dX8_touched_42 : decode cX8_touched 42 = .ok (.iconst 2, 1) := by decide +kernel
theorem dX8_touched_43 : decode cX8_touched 43 = .ok (.goto 4, 3) := by decide +kernel
theorem dX8_touched_46 : decode cX8_touched 46 = .ok (.iconst 3, 1) := by decide +kernel
theorem dX8_touched_47 : decode cX8_touched 47 = .ok (.iand, 1) := by decide +kernel
theorem dX8_touched_48 : decode cX8_touched 48 = .ok (.istore 4, 2) := by decide +kernel
theorem dX8_touched_50 : decode cX8_touched 50 = .ok (.iload 4, 2) := by decide +kernel
theorem dX8_touched_52 : decode cX8_touched 52 = .ok (.aload_n 0, 1) := by decide +kernel
theorem dX8_touched_53 : decode cX8_touched 53 = .ok (.aload_n 0, 1) := by decide +kernel
theorem dX8_touched_54 : decode cX8_touched 54 = .ok (.getfield 35, 3) := by decide +kernel
theorem dX8_touched_57 : decode cX8_touched 57 = .ok (.iconst 2, 1) := by decide +kernel
theorem dX8_touched_58 : decode cX8_touched 58 = .ok (.iload_n 3, 1) := by decide +kernel
theorem dX8_touched_59 : decode cX8_touched 59 = .ok (.imul, 1) := by decide +kernel
theorem dX8_touched_60 : decode cX8_touched 60 = .ok (.iconst 1, 1) := by decide +kernel
theorem dX8_touched_61 : decode cX8_touched 61 = .ok (.iadd, 1) := by decide +kernel
theorem dX8_touched_62 : decode cX8_touched 62 = .ok (.iaload, 1) := by decide +kernel
theorem dX8_touched_63 : decode cX8_touched 63 = .ok (.iload_n 1, 1) := by decide +kernel
theorem dX8_touched_64 : decode cX8_touched 64 = .ok (.bipush 66, 2) := by decide +kernel
theorem dX8_touched_66 : decode cX8_touched 66 = .ok (.if_icmp .ge 7, 3) := by decide +kernel
theorem dX8_touched_69 : decode cX8_touched 69 = .ok (.iconst 1, 1) := by decide +kernel
theorem dX8_touched_70 : decode cX8_touched 70 = .ok (.goto 4, 3) := by decide +kernel
theorem dX8_touched_73 : decode cX8_touched 73 = .ok (.iconst 0, 1) := by decide +kernel
theorem dX8_touched_74 : decode cX8_touched 74 = .ok (.invokevirtual 125, 3) := by decide +kernel
theorem dX8_touched_77 : decode cX8_touched 77 = .ok (.ifCond .eq 7, 3) := by decide +kernel
theorem dX8_touched_80 : decode cX8_touched 80 = .ok (.iconst 1, 1) := by decide +kernel
theorem dX8_touched_81 : decode cX8_touched 81 = .ok (.goto 4, 3) := by decide +kernel
theorem dX8_touched_84 : decode cX8_touched 84 = .ok (.iconst 3, 1) := by decide +kernel
theorem dX8_touched_85 : decode cX8_touched 85 = .ok (.iand, 1) := by decide +kernel
theorem dX8_touched_86 : decode cX8_touched 86 = .ok (.ireturn, 1) := by decide +kernel
theorem dX8_tells_0 : decode cX8_tells 0 = .ok (.iload_n 1, 1) := by decide +kernel
theorem dX8_tells_1 : decode cX8_tells 1 = .ok (.bipush 66, 2) := by decide +kernel
theorem dX8_tells_3 : decode cX8_tells 3 = .ok (.if_icmp .ge 7, 3) := by decide +kernel
theorem dX8_tells_6 : decode cX8_tells 6 = .ok (.iconst 3, 1) := by decide +kernel
theorem dX8_tells_7 : decode cX8_tells 7 = .ok (.goto 4, 3) := by decide +kernel
theorem dX8_tells_10 : decode cX8_tells 10 = .ok (.iconst 5, 1) := by decide +kernel
theorem dX8_tells_11 : decode cX8_tells 11 = .ok (.istore_n 2, 1) := by decide +kernel
theorem dX8_tells_12 : decode cX8_tells 12 = .ok (.aload_n 0, 1) := by decide +kernel
theorem dX8_tells_13 : decode cX8_tells 13 = .ok (.iconst 0, 1) := by decide +kernel
theorem dX8_tells_14 : decode cX8_tells 14 = .ok (.putfield 129, 3) := by decide +kernel
theorem dX8_tells_17 : decode cX8_tells 17 = .ok (.aload_n 0, 1) := by decide +kernel
theorem dX8_tells_18 : decode cX8_tells 18 = .ok (.iconst 0, 1) := by decide +kernel
theorem dX8_tells_19 : decode cX8_tells 19 = .ok (.putfield 132, 3) := by decide +kernel
theorem dX8_tells_22 : decode cX8_tells 22 = .ok (.aload_n 0, 1) := by decide +kernel
theorem dX8_tells_23 : decode cX8_tells 23 = .ok (.iconst (-1), 1) := by decide +kernel
theorem dX8_tells_24 : decode cX8_tells 24 = .ok (.putfield 135, 3) := by decide +kernel
theorem dX8_tells_27 : decode cX8_tells 27 = .ok (.iconst 0, 1) := by decide +kernel
theorem dX8_tells_28 : decode cX8_tells 28 = .ok (.istore_n 3, 1) := by decide +kernel
theorem dX8_tells_29 : decode cX8_tells 29 = .ok (.iload_n 3, 1) := by decide +kernel
theorem dX8_tells_30 : decode cX8_tells 30 = .ok (.aload_n 0, 1) := by decide +kernel
theorem dX8_tells_31 : decode cX8_tells 31 = .ok (.getfield 26, 3) := by decide +kernel
theorem dX8_tells_34 : decode cX8_tells 34 = .ok (.iload_n 1, 1) := by decide +kernel
theorem dX8_tells_35 : decode cX8_tells 35 = .ok (.iaload, 1) := by decide +kernel
theorem dX8_tells_36 : decode cX8_tells 36 = .ok (.if_icmp .ge 106, 3) := by decide +kernel
theorem dX8_tells_39 : decode cX8_tells 39 = .ok (.aload_n 0, 1) := by decide +kernel
theorem dX8_tells_40 : decode cX8_tells 40 = .ok (.getfield 135, 3) := by decide +kernel
theorem dX8_tells_43 : decode cX8_tells 43 = .ok (.iconst (-1), 1) := by decide +kernel
theorem dX8_tells_44 : decode cX8_tells 44 = .ok (.if_icmp .ne 98, 3) := by decide +kernel
theorem dX8_tells_47 : decode cX8_tells 47 = .ok (.aload_n 0, 1) := by decide +kernel
theorem dX8_tells_48 : decode cX8_tells 48 = .ok (.iload_n 1, 1) := by decide +kernel
theorem dX8_tells_49 : decode cX8_tells 49 = .ok (.iload_n 3, 1) := by decide +kernel
theorem dX8_tells_50 : decode cX8_tells 50 = .ok (.invokevirtual 138, 3) := by decide +kernel
theorem dX8_tells_53 : decode cX8_tells 53 = .ok (.istore 4, 2) := by decide +kernel
theorem dX8_tells_55 : decode cX8_tells 55 = .ok (.iload 4, 2) := by decide +kernel
theorem dX8_tells_57 : decode cX8_tells 57 = .ok (.iconst 3, 1) := by decide +kernel
theorem dX8_tells_58 : decode cX8_tells 58 = .ok (.if_icmp .lt 23, 3) := by decide +kernel
theorem dX8_tells_61 : decode cX8_tells 61 = .ok (.aload_n 0, 1) := by decide +kernel
theorem dX8_tells_62 : decode cX8_tells 62 = .ok (.getfield 129, 3) := by decide +kernel
theorem dX8_tells_65 : decode cX8_tells 65 = .ok (.iconst 1, 1) := by decide +kernel
theorem dX8_tells_66 : decode cX8_tells 66 = .ok (.iadd, 1) := by decide +kernel
theorem dX8_tells_67 : decode cX8_tells 67 = .ok (.iload_n 2, 1) := by decide +kernel
theorem dX8_tells_68 : decode cX8_tells 68 = .ok (.if_icmp .lt 13, 3) := by decide +kernel
theorem dX8_tells_71 : decode cX8_tells 71 = .ok (.aload_n 0, 1) := by decide +kernel
theorem dX8_tells_72 : decode cX8_tells 72 = .ok (.getfield 132, 3) := by decide +kernel
theorem dX8_tells_75 : decode cX8_tells 75 = .ok (.iconst 1, 1) := by decide +kernel
theorem dX8_tells_76 : decode cX8_tells 76 = .ok (.iadd, 1) := by decide +kernel
theorem dX8_tells_77 : decode cX8_tells 77 = .ok (.iload_n 2, 1) := by decide +kernel
theorem dX8_tells_78 : decode cX8_tells 78 = .ok (.if_icmp .ge 29, 3) := by decide +kernel
theorem dX8_tells_81 : decode cX8_tells 81 = .ok (.aload_n 0, 1) := by decide +kernel
theorem dX8_tells_82 : decode cX8_tells 82 = .ok (.dup, 1) := by decide +kernel
theorem dX8_tells_83 : decode cX8_tells 83 = .ok (.getfield 129, 3) := by decide +kernel
theorem dX8_tells_86 : decode cX8_tells 86 = .ok (.iload 4, 2) := by decide +kernel
theorem dX8_tells_88 : decode cX8_tells 88 = .ok (.iconst 1, 1) := by decide +kernel
theorem dX8_tells_89 : decode cX8_tells 89 = .ok (.iand, 1) := by decide +kernel
theorem dX8_tells_90 : decode cX8_tells 90 = .ok (.iadd, 1) := by decide +kernel
theorem dX8_tells_91 : decode cX8_tells 91 = .ok (.putfield 129, 3) := by decide +kernel
theorem dX8_tells_94 : decode cX8_tells 94 = .ok (.aload_n 0, 1) := by decide +kernel
theorem dX8_tells_95 : decode cX8_tells 95 = .ok (.dup, 1) := by decide +kernel
theorem dX8_tells_96 : decode cX8_tells 96 = .ok (.getfield 132, 3) := by decide +kernel
theorem dX8_tells_99 : decode cX8_tells 99 = .ok (.iload 4, 2) := by decide +kernel
end
section
theorem dX8_tells_101 : decode cX8_tells 101 = .ok (.iconst 1, 1) := by decide +kernel
theorem dX8_tells_102 : decode cX8_tells 102 = .ok (.ishr, 1) := by decide +kernel
theorem dX8_tells_103 : decode cX8_tells 103 = .ok (.iadd, 1) := by decide +kernel
theorem dX8_tells_104 : decode cX8_tells 104 = .ok (.putfield 132, 3) := by decide +kernel
theorem dX8_tells_107 : decode cX8_tells 107 = .ok (.aload_n 0, 1) := by decide +kernel
theorem dX8_tells_108 : decode cX8_tells 108 = .ok (.aload_n 0, 1) := by decide +kernel
theorem dX8_tells_109 : decode cX8_tells 109 = .ok (.getfield 129, 3) := by decide +kernel
theorem dX8_tells_112 : decode cX8_tells 112 = .ok (.iload_n 2, 1) := by decide +kernel
theorem dX8_tells_113 : decode cX8_tells 113 = .ok (.if_icmp .ne 7, 3) := by decide +kernel
theorem dX8_tells_116 : decode cX8_tells 116 = .ok (.iconst 0, 1) := by decide +kernel
theorem dX8_tells_117 : decode cX8_tells 117 = .ok (.goto 16, 3) := by decide +kernel
theorem dX8_tells_120 : decode cX8_tells 120 = .ok (.aload_n 0, 1) := by decide +kernel
theorem dX8_tells_121 : decode cX8_tells 121 = .ok (.getfield 132, 3) := by decide +kernel
theorem dX8_tells_124 : decode cX8_tells 124 = .ok (.iload_n 2, 1) := by decide +kernel
theorem dX8_tells_125 : decode cX8_tells 125 = .ok (.if_icmp .ne 7, 3) := by decide +kernel
theorem dX8_tells_128 : decode cX8_tells 128 = .ok (.iconst 1, 1) := by decide +kernel
theorem dX8_tells_129 : decode cX8_tells 129 = .ok (.goto 4, 3) := by decide +kernel
theorem dX8_tells_132 : decode cX8_tells 132 = .ok (.iconst (-1), 1) := by decide +kernel
theorem dX8_tells_133 : decode cX8_tells 133 = .ok (.putfield 135, 3) := by decide +kernel
theorem dX8_tells_136 : decode cX8_tells 136 = .ok (.iinc 3 1, 3) := by decide +kernel
theorem dX8_tells_139 : decode cX8_tells 139 = .ok (.goto (-110), 3) := by decide +kernel
theorem dX8_tells_142 : decode cX8_tells 142 = .ok (.aload_n 0, 1) := by decide +kernel
theorem dX8_tells_143 : decode cX8_tells 143 = .ok (.aload_n 0, 1) := by decide +kernel
theorem dX8_tells_144 : decode cX8_tells 144 = .ok (.getfield 135, 3) := by decide +kernel
theorem dX8_tells_147 : decode cX8_tells 147 = .ok (.iconst (-1), 1) := by decide +kernel
theorem dX8_tells_148 : decode cX8_tells 148 = .ok (.if_icmp .ne 33, 3) := by decide +kernel
theorem dX8_tells_151 : decode cX8_tells 151 = .ok (.aload_n 0, 1) := by decide +kernel
theorem dX8_tells_152 : decode cX8_tells 152 = .ok (.getfield 26, 3) := by decide +kernel
theorem dX8_tells_155 : decode cX8_tells 155 = .ok (.iload_n 1, 1) := by decide +kernel
theorem dX8_tells_156 : decode cX8_tells 156 = .ok (.iaload, 1) := by decide +kernel
theorem dX8_tells_157 : decode cX8_tells 157 = .ok (.bipush 12, 2) := by decide +kernel
theorem dX8_tells_159 : decode cX8_tells 159 = .ok (.if_icmp .ne 22, 3) := by decide +kernel
theorem dX8_tells_162 : decode cX8_tells 162 = .ok (.aload_n 0, 1) := by decide +kernel
theorem dX8_tells_163 : decode cX8_tells 163 = .ok (.getfield 132, 3) := by decide +kernel
theorem dX8_tells_166 : decode cX8_tells 166 = .ok (.aload_n 0, 1) := by decide +kernel
theorem dX8_tells_167 : decode cX8_tells 167 = .ok (.getfield 129, 3) := by decide +kernel
theorem dX8_tells_170 : decode cX8_tells 170 = .ok (.if_icmp .le 7, 3) := by decide +kernel
theorem dX8_tells_173 : decode cX8_tells 173 = .ok (.iconst 1, 1) := by decide +kernel
theorem dX8_tells_174 : decode cX8_tells 174 = .ok (.goto 11, 3) := by decide +kernel
theorem dX8_tells_177 : decode cX8_tells 177 = .ok (.iconst 0, 1) := by decide +kernel
theorem dX8_tells_178 : decode cX8_tells 178 = .ok (.goto 7, 3) := by decide +kernel
theorem dX8_tells_181 : decode cX8_tells 181 = .ok (.aload_n 0, 1) := by decide +kernel
theorem dX8_tells_182 : decode cX8_tells 182 = .ok (.getfield 135, 3) := by decide +kernel
theorem dX8_tells_185 : decode cX8_tells 185 = .ok (.putfield 135, 3) := by decide +kernel
theorem dX8_tells_188 : decode cX8_tells 188 = .ok (.return_, 1) := by decide +kernel
theorem dX8_follows_0 : decode cX8_follows 0 = .ok (.iconst 1, 1) := by decide +kernel
theorem dX8_follows_1 : decode cX8_follows 1 = .ok (.istore_n 1, 1) := by decide +kernel
theorem dX8_follows_2 : decode cX8_follows 2 = .ok (.iload_n 1, 1) := by decide +kernel
theorem dX8_follows_3 : decode cX8_follows 3 = .ok (.bipush 32, 2) := by decide +kernel
theorem dX8_follows_5 : decode cX8_follows 5 = .ok (.if_icmp .ge 16, 3) := by decide +kernel
theorem dX8_follows_8 : decode cX8_follows 8 = .ok (.aload_n 0, 1) := by decide +kernel
theorem dX8_follows_9 : decode cX8_follows 9 = .ok (.getfield 57, 3) := by decide +kernel
theorem dX8_follows_12 : decode cX8_follows 12 = .ok (.iload_n 1, 1) := by decide +kernel
theorem dX8_follows_13 : decode cX8_follows 13 = .ok (.iconst 0, 1) := by decide +kernel
theorem dX8_follows_14 : decode cX8_follows 14 = .ok (.bastore, 1) := by decide +kernel
theorem dX8_follows_15 : decode cX8_follows 15 = .ok (.iinc 1 1, 3) := by decide +kernel
theorem dX8_follows_18 : decode cX8_follows 18 = .ok (.goto (-16), 3) := by decide +kernel
theorem dX8_follows_21 : decode cX8_follows 21 = .ok (.aload_n 0, 1) := by decide +kernel
theorem dX8_follows_22 : decode cX8_follows 22 = .ok (.getfield 95, 3) := by decide +kernel
theorem dX8_follows_25 : decode cX8_follows 25 = .ok (.iconst 1, 1) := by decide +kernel
theorem dX8_follows_26 : decode cX8_follows 26 = .ok (.isub, 1) := by decide +kernel
theorem dX8_follows_27 : decode cX8_follows 27 = .ok (.istore_n 1, 1) := by decide +kernel
theorem dX8_follows_28 : decode cX8_follows 28 = .ok (.iload_n 1, 1) := by decide +kernel
theorem dX8_follows_29 : decode cX8_follows 29 = .ok (.iconst 1, 1) := by decide +kernel
theorem dX8_follows_30 : decode cX8_follows 30 = .ok (.if_icmp .lt 237, 3) := by decide +kernel
theorem dX8_follows_33 : decode cX8_follows 33 = .ok (.bipush 66, 2) := by decide +kernel
theorem dX8_follows_35 : decode cX8_follows 35 = .ok (.iload_n 1, 1) := by decide +kernel
theorem dX8_follows_36 : decode cX8_follows 36 = .ok (.iadd, 1) := by decide +kernel
theorem dX8_follows_37 : decode cX8_follows 37 = .ok (.istore_n 2, 1) := by decide +kernel
theorem dX8_follows_38 : decode cX8_follows 38 = .ok (.aload_n 0, 1) := by decide +kernel
theorem dX8_follows_39 : decode cX8_follows 39 = .ok (.getfield 57, 3) := by decide +kernel
theorem dX8_follows_42 : decode cX8_follows 42 = .ok (.iconst 2, 1) := by decide +kernel
theorem dX8_follows_43 : decode cX8_follows 43 = .ok (.iload_n 1, 1) := by decide +kernel
theorem dX8_follows_44 : decode cX8_follows 44 = .ok (.imul, 1) := by decide +kernel
theorem dX8_follows_45 : decode cX8_follows 45 = .ok (.baload, 1) := by decide +kernel
theorem dX8_follows_46 : decode cX8_follows 46 = .ok (.ifCond .ne 16, 3) := by decide +kernel
theorem dX8_follows_49 : decode cX8_follows 49 = .ok (.aload_n 0, 1) := by decide +kernel
theorem dX8_follows_50 : decode cX8_follows 50 = .ok (.getfield 57, 3) := by decide +kernel
theorem dX8_follows_53 : decode cX8_follows 53 = .ok (.iconst 2, 1) := by decide +kernel
theorem dX8_follows_54 : decode cX8_follows 54 = .ok (.iload_n 1, 1) := by decide +kernel
theorem dX8_follows_55 : decode cX8_follows 55 = .ok (.imul, 1) := by decide +kernel
theorem dX8_follows_56 : decode cX8_follows 56 = .ok (.iconst 1, 1) := by decide +kernel
theorem dX8_follows_57 : decode cX8_follows 57 = .ok (.iadd, 1) := by decide +kernel
theorem dX8_follows_58 : decode cX8_follows 58 = .ok (.baload, 1) := by decide +kernel
theorem dX8_follows_59 : decode cX8_follows 59 = .ok (.ifCond .eq 76, 3) := by decide +kernel
theorem dX8_follows_62 : decode cX8_follows 62 = .ok (.aload_n 0, 1) := by decide +kernel
theorem dX8_follows_63 : decode cX8_follows 63 = .ok (.dup, 1) := by decide +kernel
theorem dX8_follows_64 : decode cX8_follows 64 = .ok (.getfield 142, 3) := by decide +kernel
theorem dX8_follows_67 : decode cX8_follows 67 = .ok (.aload_n 0, 1) := by decide +kernel
theorem dX8_follows_68 : decode cX8_follows 68 = .ok (.getfield 26, 3) := by decide +kernel
theorem dX8_follows_71 : decode cX8_follows 71 = .ok (.iload_n 2, 1) := by decide +kernel
theorem dX8_follows_72 : decode cX8_follows 72 = .ok (.iaload, 1) := by decide +kernel
theorem dX8_follows_73 : decode cX8_follows 73 = .ok (.ifCond .le 7, 3) := by decide +kernel
theorem dX8_follows_76 : decode cX8_follows 76 = .ok (.iconst 1, 1) := by decide +kernel
theorem dX8_follows_77 : decode cX8_follows 77 = .ok (.goto 4, 3) := by decide +kernel
theorem dX8_follows_80 : decode cX8_follows 80 = .ok (.iconst 0, 1) := by decide +kernel
theorem dX8_follows_81 : decode cX8_follows 81 = .ok (.iadd, 1) := by decide +kernel
theorem dX8_follows_82 : decode cX8_follows 82 = .ok (.putfield 142, 3) := by decide +kernel
theorem dX8_follows_85 : decode cX8_follows 85 = .ok (.aload_n 0, 1) := by decide +kernel
theorem dX8_follows_86 : decode cX8_follows 86 = .ok (.getfield 26, 3) := by decide +kernel
theorem dX8_follows_89 : decode cX8_follows 89 = .ok (.iload_n 2, 1) := by decide +kernel
theorem dX8_follows_90 : decode cX8_follows 90 = .ok (.iconst 0, 1) := by decide +kernel
theorem dX8_follows_91 : decode cX8_follows 91 = .ok (.iastore, 1) := by decide +kernel
theorem dX8_follows_92 : decode cX8_follows 92 = .ok (.aload_n 0, 1) := by decide +kernel
theorem dX8_follows_93 : decode cX8_follows 93 = .ok (.getfield 29, 3) := by decide +kernel
theorem dX8_follows_96 : decode cX8_follows 96 = .ok (.iconst 2, 1) := by decide +kernel
theorem dX8_follows_97 : decode cX8_follows 97 = .ok (.iload_n 2, 1) := by decide +kernel
theorem dX8_follows_98 : decode cX8_follows 98 = .ok (.imul, 1) := by decide +kernel
theorem dX8_follows_99 : decode cX8_follows 99 = .ok (.iconst 0, 1) := by decide +kernel
theorem dX8_follows_100 : decode cX8_follows 100 = .ok (.iastore, 1) := by decide +kernel
theorem dX8_follows_101 : decode cX8_follows 101 = .ok (.aload_n 0, 1) := by decide +kernel
theorem dX8_follows_102 : decode cX8_follows 102 = .ok (.getfield 29, 3) := by decide +kernel
theorem dX8_follows_105 : decode cX8_follows 105 = .ok (.iconst 2, 1) := by decide +kernel
theorem dX8_follows_106 : decode cX8_follows 106 = .ok (.iload_n 2, 1) := by decide +kernel
theorem dX8_follows_107 : decode cX8_follows 107 = .ok (.imul, 1) := by decide +kernel
theorem dX8_follows_108 : decode cX8_follows 108 = .ok (.iconst 1, 1) := by decide +kernel
theorem dX8_follows_109 : decode cX8_follows 109 = .ok (.iadd, 1) := by decide +kernel
theorem dX8_follows_110 : decode cX8_follows 110 = .ok (.iconst 0, 1) := by decide +kernel
theorem dX8_follows_111 : decode cX8_follows 111 = .ok (.iastore, 1) := by decide +kernel
theorem dX8_follows_112 : decode cX8_follows 112 = .ok (.aload_n 0, 1) := by decide +kernel
theorem dX8_follows_113 : decode cX8_follows 113 = .ok (.aload_n 0, 1) := by decide +kernel
theorem dX8_follows_114 : decode cX8_follows 114 = .ok (.getfield 47, 3) := by decide +kernel
theorem dX8_follows_117 : decode cX8_follows 117 = .ok (.bipush 100, 2) := by decide +kernel
theorem dX8_follows_119 : decode cX8_follows 119 = .ok (.iload_n 1, 1) := by decide +kernel
theorem dX8_follows_120 : decode cX8_follows 120 = .ok (.iadd, 1) := by decide +kernel
theorem dX8_follows_121 : decode cX8_follows 121 = .ok (.if_icmp .ne 7, 3) := by decide +kernel
theorem dX8_follows_124 : decode cX8_follows 124 = .ok (.iconst (-1), 1) := by decide +kernel
theorem dX8_follows_125 : decode cX8_follows 125 = .ok (.goto 7, 3) := by decide +kernel
theorem dX8_follows_128 : decode cX8_follows 128 = .ok (.aload_n 0, 1) := by decide +kernel
theorem dX8_follows_129 : decode cX8_follows 129 = .ok (.getfield 47, 3) := by decide +kernel
theorem dX8_follows_132 : decode cX8_follows 132 = .ok (.putfield 47, 3) := by decide +kernel
theorem dX8_follows_135 : decode cX8_follows 135 = .ok (.aload_n 0, 1) := by decide +kernel
theorem dX8_follows_136 : decode cX8_follows 136 = .ok (.getfield 54, 3) := by decide +kernel
theorem dX8_follows_139 : decode cX8_follows 139 = .ok (.iconst 2, 1) := by decide +kernel
theorem dX8_follows_140 : decode cX8_follows 140 = .ok (.iload_n 1, 1) := by decide +kernel
theorem dX8_follows_141 : decode cX8_follows 141 = .ok (.imul, 1) := by decide +kernel
theorem dX8_follows_142 : decode cX8_follows 142 = .ok (.iaload, 1) := by decide +kernel
theorem dX8_follows_143 : decode cX8_follows 143 = .ok (.istore_n 3, 1) := by decide +kernel
theorem dX8_follows_144 : decode cX8_follows 144 = .ok (.aload_n 0, 1) := by decide +kernel
theorem dX8_follows_145 : decode cX8_follows 145 = .ok (.getfield 54, 3) := by decide +kernel
theorem dX8_follows_148 : decode cX8_follows 148 = .ok (.iconst 2, 1) := by decide +kernel
theorem dX8_follows_149 : decode cX8_follows 149 = .ok (.iload_n 1, 1) := by decide +kernel
theorem dX8_follows_150 : decode cX8_follows 150 = .ok (.imul, 1) := by decide +kernel
theorem dX8_follows_151 : decode cX8_follows 151 = .ok (.iconst 1, 1) := by decide +kernel
theorem dX8_follows_152 : decode cX8_follows 152 = .ok (.iadd, 1) := by decide +kernel
theorem dX8_follows_153 : decode cX8_follows 153 = .ok (.iaload, 1) := by decide +kernel
theorem dX8_follows_154 : decode cX8_follows 154 = .ok (.istore 4, 2) := by decide +kernel
theorem dX8_follows_156 : decode cX8_follows 156 = .ok (.iload_n 3, 1) := by decide +kernel
theorem dX8_follows_157 : decode cX8_follows 157 = .ok (.bipush (-2), 2) := by decide +kernel
theorem dX8_follows_159 : decode cX8_follows 159 = .ok (.if_icmp .ne 8, 3) := by decide +kernel
theorem dX8_follows_162 : decode cX8_follows 162 = .ok (.iload 4, 2) := by decide +kernel
theorem dX8_follows_164 : decode cX8_follows 164 = .ok (.goto 15, 3) := by decide +kernel
theorem dX8_follows_167 : decode cX8_follows 167 = .ok (.iload 4, 2) := by decide +kernel
theorem dX8_follows_169 : decode cX8_follows 169 = .ok (.bipush (-2), 2) := by decide +kernel
theorem dX8_follows_171 : decode cX8_follows 171 = .ok (.if_icmp .ne 7, 3) := by decide +kernel
theorem dX8_follows_174 : decode cX8_follows 174 = .ok (.iload_n 3, 1) := by decide +kernel
theorem dX8_follows_175 : decode cX8_follows 175 = .ok (.goto 4, 3) := by decide +kernel
theorem dX8_follows_178 : decode cX8_follows 178 = .ok (.iconst (-1), 1) := by decide +kernel
theorem dX8_follows_179 : decode cX8_follows 179 = .ok (.istore 5, 2) := by decide +kernel
theorem dX8_follows_181 : decode cX8_follows 181 = .ok (.iload_n 3, 1) := by decide +kernel
theorem dX8_follows_182 : decode cX8_follows 182 = .ok (.ifCond .lt 40, 3) := by decide +kernel
theorem dX8_follows_185 : decode cX8_follows 185 = .ok (.iload 4, 2) := by decide +kernel
theorem dX8_follows_187 : decode cX8_follows 187 = .ok (.ifCond .lt 35, 3) := by decide +kernel
theorem dX8_follows_190 : decode cX8_follows 190 = .ok (.aload_n 0, 1) := by decide +kernel
theorem dX8_follows_191 : decode cX8_follows 191 = .ok (.iload_n 2, 1) := by decide +kernel
theorem dX8_follows_192 : decode cX8_follows 192 = .ok (.invokevirtual 145, 3) := by decide +kernel
theorem dX8_follows_195 : decode cX8_follows 195 = .ok (.aload_n 0, 1) := by decide +kernel
theorem dX8_follows_196 : decode cX8_follows 196 = .ok (.getfield 135, 3) := by decide +kernel
theorem dX8_follows_199 : decode cX8_follows 199 = .ok (.iconst (-1), 1) := by decide +kernel
theorem dX8_follows_200 : decode cX8_follows 200 = .ok (.if_icmp .ne 7, 3) := by decide +kernel
theorem dX8_follows_203 : decode cX8_follows 203 = .ok (.iconst (-1), 1) := by decide +kernel
theorem dX8_follows_204 : decode cX8_follows 204 = .ok (.goto 16, 3) := by decide +kernel
theorem dX8_follows_207 : decode cX8_follows 207 = .ok (.aload_n 0, 1) := by decide +kernel
theorem dX8_follows_208 : decode cX8_follows 208 = .ok (.getfield 135, 3) := by decide +kernel
theorem dX8_follows_211 : decode cX8_follows 211 = .ok (.ifCond .ne 7, 3) := by decide +kernel
theorem dX8_follows_214 : decode cX8_follows 214 = .ok (.iload_n 3, 1) := by decide +kernel
theorem dX8_follows_215 : decode cX8_follows 215 = .ok (.goto 5, 3) := by decide +kernel
theorem dX8_follows_218 : decode cX8_follows 218 = .ok (.iload 4, 2) := by decide +kernel
theorem dX8_follows_220 : decode cX8_follows 220 = .ok (.istore 5, 2) := by decide +kernel
theorem dX8_follows_222 : decode cX8_follows 222 = .ok (.aload_n 0, 1) := by decide +kernel
theorem dX8_follows_223 : decode cX8_follows 223 = .ok (.getfield 57, 3) := by decide +kernel
theorem dX8_follows_226 : decode cX8_follows 226 = .ok (.iload_n 1, 1) := by decide +kernel
theorem dX8_follows_227 : decode cX8_follows 227 = .ok (.aload_n 0, 1) := by decide +kernel
theorem dX8_follows_228 : decode cX8_follows 228 = .ok (.getfield 54, 3) := by decide +kernel
theorem dX8_follows_231 : decode cX8_follows 231 = .ok (.iload_n 1, 1) := by decide +kernel
theorem dX8_follows_232 : decode cX8_follows 232 = .ok (.iaload, 1) := by decide +kernel
theorem dX8_follows_233 : decode cX8_follows 233 = .ok (.ifCond .lt 18, 3) := by decide +kernel
theorem dX8_follows_236 : decode cX8_follows 236 = .ok (.aload_n 0, 1) := by decide +kernel
theorem dX8_follows_237 : decode cX8_follows 237 = .ok (.getfield 54, 3) := by decide +kernel
theorem dX8_follows_240 : decode cX8_follows 240 = .ok (.iload_n 1, 1) := by decide +kernel
theorem dX8_follows_241 : decode cX8_follows 241 = .ok (.iaload, 1) := by decide +kernel
theorem dX8_follows_242 : decode cX8_follows 242 = .ok (.iload 5, 2) := by decide +kernel
theorem dX8_follows_244 : decode cX8_follows 244 = .ok (.if_icmp .eq 7, 3) := by decide +kernel
theorem dX8_follows_247 : decode cX8_follows 247 = .ok (.iconst 1, 1) := by decide +kernel
theorem dX8_follows_248 : decode cX8_follows 248 = .ok (.goto 4, 3) := by decide +kernel
theorem dX8_follows_251 : decode cX8_follows 251 = .ok (.iconst 0, 1) := by decide +kernel
theorem dX8_follows_252 : decode cX8_follows 252 = .ok (.bastore, 1) := by decide +kernel
theorem dX8_follows_253 : decode cX8_follows 253 = .ok (.aload_n 0, 1) := by decide +kernel
theorem dX8_follows_254 : decode cX8_follows 254 = .ok (.getfield 54, 3) := by decide +kernel
theorem dX8_follows_257 : decode cX8_follows 257 = .ok (.iload_n 1, 1) := by decide +kernel
theorem dX8_follows_258 : decode cX8_follows 258 = .ok (.iload 5, 2) := by decide +kernel
theorem dX8_follows_260 : decode cX8_follows 260 = .ok (.iastore, 1) := by decide +kernel
theorem dX8_follows_261 : decode cX8_follows 261 = .ok (.iinc 1 (-1), 3) := by decide +kernel
theorem dX8_follows_264 : decode cX8_follows 264 = .ok (.goto (-236), 3) := by decide +kernel
theorem dX8_follows_267 : decode cX8_follows 267 = .ok (.return_, 1) := by decide +kernel
theorem dX8_fencerAt_0 : decode cX8_fencerAt 0 = .ok (.iload_n 1, 1) := by decide +kernel
theorem dX8_fencerAt_1 : decode cX8_fencerAt 1 = .ok (.bipush 100, 2) := by decide +kernel
theorem dX8_fencerAt_3 : decode cX8_fencerAt 3 = .ok (.if_icmp .lt 19, 3) := by decide +kernel
theorem dX8_fencerAt_6 : decode cX8_fencerAt 6 = .ok (.aload_n 0, 1) := by decide +kernel
theorem dX8_fencerAt_7 : decode cX8_fencerAt 7 = .ok (.getfield 54, 3) := by decide +kernel
theorem dX8_fencerAt_10 : decode cX8_fencerAt 10 = .ok (.iconst 2, 1) := by decide +kernel
theorem dX8_fencerAt_11 : decode cX8_fencerAt 11 = .ok (.iload_n 1, 1) := by decide +kernel
theorem dX8_fencerAt_12 : decode cX8_fencerAt 12 = .ok (.bipush 100, 2) := by decide +kernel
theorem dX8_fencerAt_14 : decode cX8_fencerAt 14 = .ok (.isub, 1) := by decide +kernel
theorem dX8_fencerAt_15 : decode cX8_fencerAt 15 = .ok (.imul, 1) := by decide +kernel
theorem dX8_fencerAt_16 : decode cX8_fencerAt 16 = .ok (.iload_n 2, 1) := by decide +kernel
theorem dX8_fencerAt_17 : decode cX8_fencerAt 17 = .ok (.iadd, 1) := by decide +kernel
theorem dX8_fencerAt_18 : decode cX8_fencerAt 18 = .ok (.iaload, 1) := by decide +kernel
theorem dX8_fencerAt_19 : decode cX8_fencerAt 19 = .ok (.goto 22, 3) := by decide +kernel
theorem dX8_fencerAt_22 : decode cX8_fencerAt 22 = .ok (.iload_n 2, 1) := by decide +kernel
theorem dX8_fencerAt_23 : decode cX8_fencerAt 23 = .ok (.ifCond .ne 12, 3) := by decide +kernel
theorem dX8_fencerAt_26 : decode cX8_fencerAt 26 = .ok (.aload_n 0, 1) := by decide +kernel
theorem dX8_fencerAt_27 : decode cX8_fencerAt 27 = .ok (.getfield 20, 3) := by decide +kernel
theorem dX8_fencerAt_30 : decode cX8_fencerAt 30 = .ok (.iload_n 1, 1) := by decide +kernel
theorem dX8_fencerAt_31 : decode cX8_fencerAt 31 = .ok (.iaload, 1) := by decide +kernel
theorem dX8_fencerAt_32 : decode cX8_fencerAt 32 = .ok (.goto 9, 3) := by decide +kernel
theorem dX8_fencerAt_35 : decode cX8_fencerAt 35 = .ok (.aload_n 0, 1) := by decide +kernel
theorem dX8_fencerAt_36 : decode cX8_fencerAt 36 = .ok (.getfield 23, 3) := by decide +kernel
theorem dX8_fencerAt_39 : decode cX8_fencerAt 39 = .ok (.iload_n 1, 1) := by decide +kernel
theorem dX8_fencerAt_40 : decode cX8_fencerAt 40 = .ok (.iaload, 1) := by decide +kernel
theorem dX8_fencerAt_41 : decode cX8_fencerAt 41 = .ok (.ireturn, 1) := by decide +kernel
theorem dX8_winnerOf_0 : decode cX8_winnerOf 0 = .ok (.iload_n 1, 1) := by decide +kernel
theorem dX8_winnerOf_1 : decode cX8_winnerOf 1 = .ok (.bipush 100, 2) := by decide +kernel
theorem dX8_winnerOf_3 : decode cX8_winnerOf 3 = .ok (.if_icmp .lt 13, 3) := by decide +kernel
theorem dX8_winnerOf_6 : decode cX8_winnerOf 6 = .ok (.aload_n 0, 1) := by decide +kernel
theorem dX8_winnerOf_7 : decode cX8_winnerOf 7 = .ok (.getfield 54, 3) := by decide +kernel
theorem dX8_winnerOf_10 : decode cX8_winnerOf 10 = .ok (.iload_n 1, 1) := by decide +kernel
theorem dX8_winnerOf_11 : decode cX8_winnerOf 11 = .ok (.bipush 100, 2) := by decide +kernel
theorem dX8_winnerOf_13 : decode cX8_winnerOf 13 = .ok (.isub, 1) := by decide +kernel
theorem dX8_winnerOf_14 : decode cX8_winnerOf 14 = .ok (.iaload, 1) := by decide +kernel
theorem dX8_winnerOf_15 : decode cX8_winnerOf 15 = .ok (.ireturn, 1) := by decide +kernel
theorem dX8_winnerOf_16 : decode cX8_winnerOf 16 = .ok (.aload_n 0, 1) := by decide +kernel
theorem dX8_winnerOf_17 : decode cX8_winnerOf 17 = .ok (.iload_n 1, 1) := by decide +kernel
theorem dX8_winnerOf_18 : decode cX8_winnerOf 18 = .ok (.invokevirtual 145, 3) := by decide +kernel
theorem dX8_winnerOf_21 : decode cX8_winnerOf 21 = .ok (.aload_n 0, 1) := by decide +kernel
theorem dX8_winnerOf_22 : decode cX8_winnerOf 22 = .ok (.getfield 135, 3) := by decide +kernel
theorem dX8_winnerOf_25 : decode cX8_winnerOf 25 = .ok (.iconst (-1), 1) := by decide +kernel
theorem dX8_winnerOf_26 : decode cX8_winnerOf 26 = .ok (.if_icmp .ne 7, 3) := by decide +kernel
theorem dX8_winnerOf_29 : decode cX8_winnerOf 29 = .ok (.iconst (-1), 1) := by decide +kernel
theorem dX8_winnerOf_30 : decode cX8_winnerOf 30 = .ok (.goto 12, 3) := by decide +kernel
theorem dX8_winnerOf_33 : decode cX8_winnerOf 33 = .ok (.aload_n 0, 1) := by decide +kernel
theorem dX8_winnerOf_34 : decode cX8_winnerOf 34 = .ok (.iload_n 1, 1) := by decide +kernel
theorem dX8_winnerOf_35 : decode cX8_winnerOf 35 = .ok (.aload_n 0, 1) := by decide +kernel
theorem dX8_winnerOf_36 : decode cX8_winnerOf 36 = .ok (.getfield 135, 3) := by decide +kernel
theorem dX8_winnerOf_39 : decode cX8_winnerOf 39 = .ok (.invokevirtual 149, 3) := by decide +kernel
theorem dX8_winnerOf_42 : decode cX8_winnerOf 42 = .ok (.ireturn, 1) := by decide +kernel
theorem dX8_isFit_0 : decode cX8_isFit 0 = .ok (.aload_n 0, 1) := by decide +kernel
theorem dX8_isFit_1 : decode cX8_isFit 1 = .ok (.getfield 13, 3) := by decide +kernel
theorem dX8_isFit_4 : decode cX8_isFit 4 = .ok (.iload_n 3, 1) := by decide +kernel
theorem dX8_isFit_5 : decode cX8_isFit 5 = .ok (.iaload, 1) := by decide +kernel
theorem dX8_isFit_6 : decode cX8_isFit 6 = .ok (.iconst 1, 1) := by decide +kernel
theorem dX8_isFit_7 : decode cX8_isFit 7 = .ok (.if_icmp .ne 22, 3) := by decide +kernel
theorem dX8_isFit_10 : decode cX8_isFit 10 = .ok (.aload_n 0, 1) := by decide +kernel
theorem dX8_isFit_11 : decode cX8_isFit 11 = .ok (.iload_n 1, 1) := by decide +kernel
theorem dX8_isFit_12 : decode cX8_isFit 12 = .ok (.iload_n 2, 1) := by decide +kernel
theorem dX8_isFit_13 : decode cX8_isFit 13 = .ok (.invokevirtual 149, 3) := by decide +kernel
theorem dX8_isFit_16 : decode cX8_isFit 16 = .ok (.aload_n 0, 1) := by decide +kernel
theorem dX8_isFit_17 : decode cX8_isFit 17 = .ok (.getfield 7, 3) := by decide +kernel
theorem dX8_isFit_20 : decode cX8_isFit 20 = .ok (.iload_n 3, 1) := by decide +kernel
theorem dX8_isFit_21 : decode cX8_isFit 21 = .ok (.iaload, 1) := by decide +kernel
theorem dX8_isFit_22 : decode cX8_isFit 22 = .ok (.if_icmp .ne 7, 3) := by decide +kernel
theorem dX8_isFit_25 : decode cX8_isFit 25 = .ok (.iconst 1, 1) := by decide +kernel
theorem dX8_isFit_26 : decode cX8_isFit 26 = .ok (.goto 4, 3) := by decide +kernel
theorem dX8_isFit_29 : decode cX8_isFit 29 = .ok (.iconst 0, 1) := by decide +kernel
theorem dX8_isFit_30 : decode cX8_isFit 30 = .ok (.ireturn, 1) := by decide +kernel
theorem dX8_begin_0 : decode cX8_begin 0 = .ok (.aload_n 0, 1) := by decide +kernel
theorem dX8_begin_1 : decode cX8_begin 1 = .ok (.iload_n 1, 1) := by decide +kernel
theorem dX8_begin_2 : decode cX8_begin 2 = .ok (.invokevirtual 152, 3) := by decide +kernel
theorem dX8_begin_5 : decode cX8_begin 5 = .ok (.ifCond .eq 23, 3) := by decide +kernel
theorem dX8_begin_8 : decode cX8_begin 8 = .ok (.aload_n 0, 1) := by decide +kernel
theorem dX8_begin_9 : decode cX8_begin 9 = .ok (.iload_n 2, 1) := by decide +kernel
theorem dX8_begin_10 : decode cX8_begin 10 = .ok (.invokevirtual 109, 3) := by decide +kernel
theorem dX8_begin_13 : decode cX8_begin 13 = .ok (.ifCond .eq 15, 3) := by decide +kernel
theorem dX8_begin_16 : decode cX8_begin 16 = .ok (.aload_n 0, 1) := by decide +kernel
theorem dX8_begin_17 : decode cX8_begin 17 = .ok (.iload_n 3, 1) := by decide +kernel
theorem dX8_begin_18 : decode cX8_begin 18 = .ok (.invokevirtual 109, 3) := by decide +kernel
theorem dX8_begin_21 : decode cX8_begin 21 = .ok (.ifCond .eq 7, 3) := by decide +kernel
theorem dX8_begin_24 : decode cX8_begin 24 = .ok (.iconst 1, 1) := by decide +kernel
theorem dX8_begin_25 : decode cX8_begin 25 = .ok (.goto 4, 3) := by decide +kernel
theorem dX8_begin_28 : decode cX8_begin 28 = .ok (.iconst 0, 1) := by decide +kernel
theorem dX8_begin_29 : decode cX8_begin 29 = .ok (.istore 4, 2) := by decide +kernel
theorem dX8_begin_31 : decode cX8_begin 31 = .ok (.iload 4, 2) := by decide +kernel
theorem dX8_begin_33 : decode cX8_begin 33 = .ok (.ifCond .eq 32, 3) := by decide +kernel
theorem dX8_begin_36 : decode cX8_begin 36 = .ok (.aload_n 0, 1) := by decide +kernel
theorem dX8_begin_37 : decode cX8_begin 37 = .ok (.getfield 112, 3) := by decide +kernel
theorem dX8_begin_40 : decode cX8_begin 40 = .ok (.ifCond .ne 25, 3) := by decide +kernel
theorem dX8_begin_43 : decode cX8_begin 43 = .ok (.aload_n 0, 1) := by decide +kernel
theorem dX8_begin_44 : decode cX8_begin 44 = .ok (.iload_n 1, 1) := by decide +kernel
theorem dX8_begin_45 : decode cX8_begin 45 = .ok (.iconst 0, 1) := by decide +kernel
theorem dX8_begin_46 : decode cX8_begin 46 = .ok (.invokevirtual 149, 3) := by decide +kernel
theorem dX8_begin_49 : decode cX8_begin 49 = .ok (.ifCond .lt 16, 3) := by decide +kernel
theorem dX8_begin_52 : decode cX8_begin 52 = .ok (.aload_n 0, 1) := by decide +kernel
theorem dX8_begin_53 : decode cX8_begin 53 = .ok (.iload_n 1, 1) := by decide +kernel
theorem dX8_begin_54 : decode cX8_begin 54 = .ok (.iconst 1, 1) := by decide +kernel
theorem dX8_begin_55 : decode cX8_begin 55 = .ok (.invokevirtual 149, 3) := by decide +kernel
theorem dX8_begin_58 : decode cX8_begin 58 = .ok (.ifCond .lt 7, 3) := by decide +kernel
theorem dX8_begin_61 : decode cX8_begin 61 = .ok (.iconst 1, 1) := by decide +kernel
theorem dX8_begin_62 : decode cX8_begin 62 = .ok (.goto 4, 3) := by decide +kernel
theorem dX8_begin_65 : decode cX8_begin 65 = .ok (.iconst 0, 1) := by decide +kernel
theorem dX8_begin_66 : decode cX8_begin 66 = .ok (.istore 5, 2) := by decide +kernel
theorem dX8_begin_68 : decode cX8_begin 68 = .ok (.iload 5, 2) := by decide +kernel
theorem dX8_begin_70 : decode cX8_begin 70 = .ok (.ifCond .eq 36, 3) := by decide +kernel
theorem dX8_begin_73 : decode cX8_begin 73 = .ok (.aload_n 0, 1) := by decide +kernel
theorem dX8_begin_74 : decode cX8_begin 74 = .ok (.iload_n 1, 1) := by decide +kernel
theorem dX8_begin_75 : decode cX8_begin 75 = .ok (.invokevirtual 155, 3) := by decide +kernel
theorem dX8_begin_78 : decode cX8_begin 78 = .ok (.iconst (-1), 1) := by decide +kernel
theorem dX8_begin_79 : decode cX8_begin 79 = .ok (.if_icmp .ne 27, 3) := by decide +kernel
theorem dX8_begin_82 : decode cX8_begin 82 = .ok (.aload_n 0, 1) := by decide +kernel
theorem dX8_begin_83 : decode cX8_begin 83 = .ok (.iload_n 1, 1) := by decide +kernel
theorem dX8_begin_84 : decode cX8_begin 84 = .ok (.iconst 0, 1) := by decide +kernel
theorem dX8_begin_85 : decode cX8_begin 85 = .ok (.iload_n 2, 1) := by decide +kernel
theorem dX8_begin_86 : decode cX8_begin 86 = .ok (.invokevirtual 158, 3) := by decide +kernel
theorem dX8_begin_89 : decode cX8_begin 89 = .ok (.ifCond .eq 17, 3) := by decide +kernel
theorem dX8_begin_92 : decode cX8_begin 92 = .ok (.aload_n 0, 1) := by decide +kernel
theorem dX8_begin_93 : decode cX8_begin 93 = .ok (.iload_n 1, 1) := by decide +kernel
theorem dX8_begin_94 : decode cX8_begin 94 = .ok (.iconst 1, 1) := by decide +kernel
theorem dX8_begin_95 : decode cX8_begin 95 = .ok (.iload_n 3, 1) := by decide +kernel
theorem dX8_begin_96 : decode cX8_begin 96 = .ok (.invokevirtual 158, 3) := by decide +kernel
theorem dX8_begin_99 : decode cX8_begin 99 = .ok (.ifCond .eq 7, 3) := by decide +kernel
theorem dX8_begin_102 : decode cX8_begin 102 = .ok (.iconst 1, 1) := by decide +kernel
theorem dX8_begin_103 : decode cX8_begin 103 = .ok (.goto 4, 3) := by decide +kernel
theorem dX8_begin_106 : decode cX8_begin 106 = .ok (.iconst 0, 1) := by decide +kernel
theorem dX8_begin_107 : decode cX8_begin 107 = .ok (.istore 5, 2) := by decide +kernel
theorem dX8_begin_109 : decode cX8_begin 109 = .ok (.aload_n 0, 1) := by decide +kernel
theorem dX8_begin_110 : decode cX8_begin 110 = .ok (.iload 4, 2) := by decide +kernel
theorem dX8_begin_112 : decode cX8_begin 112 = .ok (.iload 5, 2) := by decide +kernel
theorem dX8_begin_114 : decode cX8_begin 114 = .ok (.iconst 1, 1) := by decide +kernel
theorem dX8_begin_115 : decode cX8_begin 115 = .ok (.invokevirtual 101, 3) := by decide +kernel
theorem dX8_begin_118 : decode cX8_begin 118 = .ok (.ifCond .ne 5, 3) := by decide +kernel
theorem dX8_begin_121 : decode cX8_begin 121 = .ok (.iconst 0, 1) := by decide +kernel
theorem dX8_begin_122 : decode cX8_begin 122 = .ok (.ireturn, 1) := by decide +kernel
theorem dX8_begin_123 : decode cX8_begin 123 = .ok (.aload_n 0, 1) := by decide +kernel
theorem dX8_begin_124 : decode cX8_begin 124 = .ok (.iload_n 1, 1) := by decide +kernel
theorem dX8_begin_125 : decode cX8_begin 125 = .ok (.putfield 47, 3) := by decide +kernel
theorem dX8_begin_128 : decode cX8_begin 128 = .ok (.aload_n 0, 1) := by decide +kernel
theorem dX8_begin_129 : decode cX8_begin 129 = .ok (.getfield 51, 3) := by decide +kernel
theorem dX8_begin_132 : decode cX8_begin 132 = .ok (.iconst 0, 1) := by decide +kernel
theorem dX8_begin_133 : decode cX8_begin 133 = .ok (.iload_n 2, 1) := by decide +kernel
theorem dX8_begin_134 : decode cX8_begin 134 = .ok (.iastore, 1) := by decide +kernel
theorem dX8_begin_135 : decode cX8_begin 135 = .ok (.aload_n 0, 1) := by decide +kernel
theorem dX8_begin_136 : decode cX8_begin 136 = .ok (.getfield 51, 3) := by decide +kernel
theorem dX8_begin_139 : decode cX8_begin 139 = .ok (.iconst 1, 1) := by decide +kernel
theorem dX8_begin_140 : decode cX8_begin 140 = .ok (.iload_n 3, 1) := by decide +kernel
theorem dX8_begin_141 : decode cX8_begin 141 = .ok (.iastore, 1) := by decide +kernel
theorem dX8_begin_142 : decode cX8_begin 142 = .ok (.aload_n 0, 1) := by decide +kernel
theorem dX8_begin_143 : decode cX8_begin 143 = .ok (.iconst 0, 1) := by decide +kernel
theorem dX8_begin_144 : decode cX8_begin 144 = .ok (.putfield 161, 3) := by decide +kernel
theorem dX8_begin_147 : decode cX8_begin 147 = .ok (.aload_n 0, 1) := by decide +kernel
theorem dX8_begin_148 : decode cX8_begin 148 = .ok (.getfield 26, 3) := by decide +kernel
theorem dX8_begin_151 : decode cX8_begin 151 = .ok (.iload_n 1, 1) := by decide +kernel
theorem dX8_begin_152 : decode cX8_begin 152 = .ok (.invokestatic 164, 3) := by decide +kernel
theorem dX8_begin_155 : decode cX8_begin 155 = .ok (.iaload, 1) := by decide +kernel
theorem dX8_begin_156 : decode cX8_begin 156 = .ok (.ireturn, 1) := by decide +kernel
theorem dX8_change_0 : decode cX8_change 0 = .ok (.iload_n 1, 1) := by decide +kernel
theorem dX8_change_1 : decode cX8_change 1 = .ok (.invokestatic 167, 3) := by decide +kernel
theorem dX8_change_4 : decode cX8_change 4 = .ok (.ifCond .eq 15, 3) := by decide +kernel
theorem dX8_change_7 : decode cX8_change 7 = .ok (.aload_n 0, 1) := by decide +kernel
theorem dX8_change_8 : decode cX8_change 8 = .ok (.iload_n 2, 1) := by decide +kernel
theorem dX8_change_9 : decode cX8_change 9 = .ok (.invokevirtual 109, 3) := by decide +kernel
theorem dX8_change_12 : decode cX8_change 12 = .ok (.ifCond .eq 7, 3) := by decide +kernel
theorem dX8_change_15 : decode cX8_change 15 = .ok (.iconst 1, 1) := by decide +kernel
theorem dX8_change_16 : decode cX8_change 16 = .ok (.goto 4, 3) := by decide +kernel
theorem dX8_change_19 : decode cX8_change 19 = .ok (.iconst 0, 1) := by decide +kernel
theorem dX8_change_20 : decode cX8_change 20 = .ok (.istore_n 3, 1) := by decide +kernel
theorem dX8_change_21 : decode cX8_change 21 = .ok (.aload_n 0, 1) := by decide +kernel
theorem dX8_change_22 : decode cX8_change 22 = .ok (.iload_n 3, 1) := by decide +kernel
theorem dX8_change_23 : decode cX8_change 23 = .ok (.iload_n 3, 1) := by decide +kernel
theorem dX8_change_24 : decode cX8_change 24 = .ok (.ifCond .eq 35, 3) := by decide +kernel
theorem dX8_change_27 : decode cX8_change 27 = .ok (.aload_n 0, 1) := by decide +kernel
theorem dX8_change_28 : decode cX8_change 28 = .ok (.getfield 47, 3) := by decide +kernel
theorem dX8_change_31 : decode cX8_change 31 = .ok (.iconst (-1), 1) := by decide +kernel
theorem dX8_change_32 : decode cX8_change 32 = .ok (.if_icmp .eq 27, 3) := by decide +kernel
theorem dX8_change_35 : decode cX8_change 35 = .ok (.aload_n 0, 1) := by decide +kernel
theorem dX8_change_36 : decode cX8_change 36 = .ok (.getfield 112, 3) := by decide +kernel
theorem dX8_change_39 : decode cX8_change 39 = .ok (.ifCond .ne 20, 3) := by decide +kernel
theorem dX8_change_42 : decode cX8_change 42 = .ok (.aload_n 0, 1) := by decide +kernel
theorem dX8_change_43 : decode cX8_change 43 = .ok (.aload_n 0, 1) := by decide +kernel
theorem dX8_change_44 : decode cX8_change 44 = .ok (.getfield 47, 3) := by decide +kernel
theorem dX8_change_47 : decode cX8_change 47 = .ok (.iload_n 1, 1) := by decide +kernel
theorem dX8_change_48 : decode cX8_change 48 = .ok (.iload_n 2, 1) := by decide +kernel
theorem dX8_change_49 : decode cX8_change 49 = .ok (.invokevirtual 158, 3) := by decide +kernel
theorem dX8_change_52 : decode cX8_change 52 = .ok (.ifCond .eq 7, 3) := by decide +kernel
theorem dX8_change_55 : decode cX8_change 55 = .ok (.iconst 1, 1) := by decide +kernel
theorem dX8_change_56 : decode cX8_change 56 = .ok (.goto 4, 3) := by decide +kernel
theorem dX8_change_59 : decode cX8_change 59 = .ok (.iconst 0, 1) := by decide +kernel
theorem dX8_change_60 : decode cX8_change 60 = .ok (.iconst 1, 1) := by decide +kernel
theorem dX8_change_61 : decode cX8_change 61 = .ok (.invokevirtual 101, 3) := by decide +kernel
theorem dX8_change_64 : decode cX8_change 64 = .ok (.ifCond .ne 5, 3) := by decide +kernel
theorem dX8_change_67 : decode cX8_change 67 = .ok (.iconst 0, 1) := by decide +kernel
theorem dX8_change_68 : decode cX8_change 68 = .ok (.ireturn, 1) := by decide +kernel
theorem dX8_change_69 : decode cX8_change 69 = .ok (.aload_n 0, 1) := by decide +kernel
theorem dX8_change_70 : decode cX8_change 70 = .ok (.getfield 51, 3) := by decide +kernel
theorem dX8_change_73 : decode cX8_change 73 = .ok (.iload_n 1, 1) := by decide +kernel
theorem dX8_change_74 : decode cX8_change 74 = .ok (.iaload, 1) := by decide +kernel
theorem dX8_change_75 : decode cX8_change 75 = .ok (.istore 4, 2) := by decide +kernel
theorem dX8_change_77 : decode cX8_change 77 = .ok (.aload_n 0, 1) := by decide +kernel
theorem dX8_change_78 : decode cX8_change 78 = .ok (.getfield 51, 3) := by decide +kernel
theorem dX8_change_81 : decode cX8_change 81 = .ok (.iload_n 1, 1) := by decide +kernel
theorem dX8_change_82 : decode cX8_change 82 = .ok (.iload_n 2, 1) := by decide +kernel
theorem dX8_change_83 : decode cX8_change 83 = .ok (.iastore, 1) := by decide +kernel
theorem dX8_change_84 : decode cX8_change 84 = .ok (.iload 4, 2) := by decide +kernel
theorem dX8_change_86 : decode cX8_change 86 = .ok (.ireturn, 1) := by decide +kernel
theorem dX8_allez_0 : decode cX8_allez 0 = .ok (.aload_n 0, 1) := by decide +kernel
theorem dX8_allez_1 : decode cX8_allez 1 = .ok (.getfield 47, 3) := by decide +kernel
theorem dX8_allez_4 : decode cX8_allez 4 = .ok (.iconst (-1), 1) := by decide +kernel
theorem dX8_allez_5 : decode cX8_allez 5 = .ok (.if_icmp .eq 44, 3) := by decide +kernel
theorem dX8_allez_8 : decode cX8_allez 8 = .ok (.aload_n 0, 1) := by decide +kernel
theorem dX8_allez_9 : decode cX8_allez 9 = .ok (.getfield 112, 3) := by decide +kernel
theorem dX8_allez_12 : decode cX8_allez 12 = .ok (.ifCond .ne 37, 3) := by decide +kernel
theorem dX8_allez_15 : decode cX8_allez 15 = .ok (.aload_n 0, 1) := by decide +kernel
theorem dX8_allez_16 : decode cX8_allez 16 = .ok (.getfield 13, 3) := by decide +kernel
theorem dX8_allez_19 : decode cX8_allez 19 = .ok (.aload_n 0, 1) := by decide +kernel
theorem dX8_allez_20 : decode cX8_allez 20 = .ok (.getfield 51, 3) := by decide +kernel
theorem dX8_allez_23 : decode cX8_allez 23 = .ok (.iconst 0, 1) := by decide +kernel
theorem dX8_allez_24 : decode cX8_allez 24 = .ok (.iaload, 1) := by decide +kernel
theorem dX8_allez_25 : decode cX8_allez 25 = .ok (.iaload, 1) := by decide +kernel
theorem dX8_allez_26 : decode cX8_allez 26 = .ok (.iconst 1, 1) := by decide +kernel
theorem dX8_allez_27 : decode cX8_allez 27 = .ok (.if_icmp .ne 22, 3) := by decide +kernel
theorem dX8_allez_30 : decode cX8_allez 30 = .ok (.aload_n 0, 1) := by decide +kernel
theorem dX8_allez_31 : decode cX8_allez 31 = .ok (.getfield 13, 3) := by decide +kernel
theorem dX8_allez_34 : decode cX8_allez 34 = .ok (.aload_n 0, 1) := by decide +kernel
theorem dX8_allez_35 : decode cX8_allez 35 = .ok (.getfield 51, 3) := by decide +kernel
theorem dX8_allez_38 : decode cX8_allez 38 = .ok (.iconst 1, 1) := by decide +kernel
theorem dX8_allez_39 : decode cX8_allez 39 = .ok (.iaload, 1) := by decide +kernel
theorem dX8_allez_40 : decode cX8_allez 40 = .ok (.iaload, 1) := by decide +kernel
theorem dX8_allez_41 : decode cX8_allez 41 = .ok (.iconst 1, 1) := by decide +kernel
theorem dX8_allez_42 : decode cX8_allez 42 = .ok (.if_icmp .ne 7, 3) := by decide +kernel
theorem dX8_allez_45 : decode cX8_allez 45 = .ok (.iconst 1, 1) := by decide +kernel
theorem dX8_allez_46 : decode cX8_allez 46 = .ok (.goto 4, 3) := by decide +kernel
theorem dX8_allez_49 : decode cX8_allez 49 = .ok (.iconst 0, 1) := by decide +kernel
theorem dX8_allez_50 : decode cX8_allez 50 = .ok (.istore_n 1, 1) := by decide +kernel
theorem dX8_allez_51 : decode cX8_allez 51 = .ok (.aload_n 0, 1) := by decide +kernel
theorem dX8_allez_52 : decode cX8_allez 52 = .ok (.iload_n 1, 1) := by decide +kernel
theorem dX8_allez_53 : decode cX8_allez 53 = .ok (.ifCond .eq 19, 3) := by decide +kernel
theorem dX8_allez_56 : decode cX8_allez 56 = .ok (.aload_n 0, 1) := by decide +kernel
theorem dX8_allez_57 : decode cX8_allez 57 = .ok (.aload_n 0, 1) := by decide +kernel
theorem dX8_allez_58 : decode cX8_allez 58 = .ok (.getfield 47, 3) := by decide +kernel
theorem dX8_allez_61 : decode cX8_allez 61 = .ok (.invokevirtual 155, 3) := by decide +kernel
theorem dX8_allez_64 : decode cX8_allez 64 = .ok (.iconst (-1), 1) := by decide +kernel
theorem dX8_allez_65 : decode cX8_allez 65 = .ok (.if_icmp .ne 7, 3) := by decide +kernel
theorem dX8_allez_68 : decode cX8_allez 68 = .ok (.iconst 1, 1) := by decide +kernel
theorem dX8_allez_69 : decode cX8_allez 69 = .ok (.goto 4, 3) := by decide +kernel
theorem dX8_allez_72 : decode cX8_allez 72 = .ok (.iconst 0, 1) := by decide +kernel
theorem dX8_allez_73 : decode cX8_allez 73 = .ok (.iconst 1, 1) := by decide +kernel
theorem dX8_allez_74 : decode cX8_allez 74 = .ok (.iconst 1, 1) := by decide +kernel
theorem dX8_allez_75 : decode cX8_allez 75 = .ok (.invokevirtual 101, 3) := by decide +kernel
theorem dX8_allez_78 : decode cX8_allez 78 = .ok (.ifCond .ne 5, 3) := by decide +kernel
theorem dX8_allez_81 : decode cX8_allez 81 = .ok (.iconst 0, 1) := by decide +kernel
theorem dX8_allez_82 : decode cX8_allez 82 = .ok (.ireturn, 1) := by decide +kernel
theorem dX8_allez_83 : decode cX8_allez 83 = .ok (.aload_n 0, 1) := by decide +kernel
theorem dX8_allez_84 : decode cX8_allez 84 = .ok (.getfield 47, 3) := by decide +kernel
theorem dX8_allez_87 : decode cX8_allez 87 = .ok (.invokestatic 164, 3) := by decide +kernel
theorem dX8_allez_90 : decode cX8_allez 90 = .ok (.istore_n 2, 1) := by decide +kernel
theorem dX8_allez_91 : decode cX8_allez 91 = .ok (.bipush 12, 2) := by decide +kernel
theorem dX8_allez_93 : decode cX8_allez 93 = .ok (.iload_n 2, 1) := by decide +kernel
theorem dX8_allez_94 : decode cX8_allez 94 = .ok (.imul, 1) := by decide +kernel
theorem dX8_allez_95 : decode cX8_allez 95 = .ok (.aload_n 0, 1) := by decide +kernel
theorem dX8_allez_96 : decode cX8_allez 96 = .ok (.getfield 26, 3) := by decide +kernel
theorem dX8_allez_99 : decode cX8_allez 99 = .ok (.iload_n 2, 1) := by decide +kernel
theorem dX8_allez_100 : decode cX8_allez 100 = .ok (.iaload, 1) := by decide +kernel
theorem dX8_allez_101 : decode cX8_allez 101 = .ok (.iadd, 1) := by decide +kernel
theorem dX8_allez_102 : decode cX8_allez 102 = .ok (.istore_n 3, 1) := by decide +kernel
theorem dX8_allez_103 : decode cX8_allez 103 = .ok (.aload_n 0, 1) := by decide +kernel
theorem dX8_allez_104 : decode cX8_allez 104 = .ok (.getfield 32, 3) := by decide +kernel
theorem dX8_allez_107 : decode cX8_allez 107 = .ok (.iload_n 3, 1) := by decide +kernel
theorem dX8_allez_108 : decode cX8_allez 108 = .ok (.iconst 0, 1) := by decide +kernel
theorem dX8_allez_109 : decode cX8_allez 109 = .ok (.iastore, 1) := by decide +kernel
theorem dX8_allez_110 : decode cX8_allez 110 = .ok (.aload_n 0, 1) := by decide +kernel
theorem dX8_allez_111 : decode cX8_allez 111 = .ok (.getfield 35, 3) := by decide +kernel
theorem dX8_allez_114 : decode cX8_allez 114 = .ok (.iconst 2, 1) := by decide +kernel
theorem dX8_allez_115 : decode cX8_allez 115 = .ok (.iload_n 3, 1) := by decide +kernel
theorem dX8_allez_116 : decode cX8_allez 116 = .ok (.imul, 1) := by decide +kernel
theorem dX8_allez_117 : decode cX8_allez 117 = .ok (.aload_n 0, 1) := by decide +kernel
theorem dX8_allez_118 : decode cX8_allez 118 = .ok (.getfield 51, 3) := by decide +kernel
theorem dX8_allez_121 : decode cX8_allez 121 = .ok (.iconst 0, 1) := by decide +kernel
theorem dX8_allez_122 : decode cX8_allez 122 = .ok (.iaload, 1) := by decide +kernel
theorem dX8_allez_123 : decode cX8_allez 123 = .ok (.iastore, 1) := by decide +kernel
theorem dX8_allez_124 : decode cX8_allez 124 = .ok (.aload_n 0, 1) := by decide +kernel
theorem dX8_allez_125 : decode cX8_allez 125 = .ok (.getfield 35, 3) := by decide +kernel
theorem dX8_allez_128 : decode cX8_allez 128 = .ok (.iconst 2, 1) := by decide +kernel
theorem dX8_allez_129 : decode cX8_allez 129 = .ok (.iload_n 3, 1) := by decide +kernel
theorem dX8_allez_130 : decode cX8_allez 130 = .ok (.imul, 1) := by decide +kernel
theorem dX8_allez_131 : decode cX8_allez 131 = .ok (.iconst 1, 1) := by decide +kernel
theorem dX8_allez_132 : decode cX8_allez 132 = .ok (.iadd, 1) := by decide +kernel
theorem dX8_allez_133 : decode cX8_allez 133 = .ok (.aload_n 0, 1) := by decide +kernel
theorem dX8_allez_134 : decode cX8_allez 134 = .ok (.getfield 51, 3) := by decide +kernel
theorem dX8_allez_137 : decode cX8_allez 137 = .ok (.iconst 1, 1) := by decide +kernel
theorem dX8_allez_138 : decode cX8_allez 138 = .ok (.iaload, 1) := by decide +kernel
theorem dX8_allez_139 : decode cX8_allez 139 = .ok (.iastore, 1) := by decide +kernel
theorem dX8_allez_140 : decode cX8_allez 140 = .ok (.aload_n 0, 1) := by decide +kernel
theorem dX8_allez_141 : decode cX8_allez 141 = .ok (.getfield 38, 3) := by decide +kernel
theorem dX8_allez_144 : decode cX8_allez 144 = .ok (.iload_n 3, 1) := by decide +kernel
theorem dX8_allez_145 : decode cX8_allez 145 = .ok (.bipush (-2), 2) := by decide +kernel
theorem dX8_allez_147 : decode cX8_allez 147 = .ok (.iastore, 1) := by decide +kernel
theorem dX8_allez_148 : decode cX8_allez 148 = .ok (.aload_n 0, 1) := by decide +kernel
theorem dX8_allez_149 : decode cX8_allez 149 = .ok (.iconst 1, 1) := by decide +kernel
theorem dX8_allez_150 : decode cX8_allez 150 = .ok (.putfield 112, 3) := by decide +kernel
theorem dX8_allez_153 : decode cX8_allez 153 = .ok (.aload_n 0, 1) := by decide +kernel
theorem dX8_allez_154 : decode cX8_allez 154 = .ok (.iconst 0, 1) := by decide +kernel
theorem dX8_allez_155 : decode cX8_allez 155 = .ok (.putfield 161, 3) := by decide +kernel
theorem dX8_allez_158 : decode cX8_allez 158 = .ok (.aload_n 0, 1) := by decide +kernel
theorem dX8_allez_159 : decode cX8_allez 159 = .ok (.getfield 26, 3) := by decide +kernel
theorem dX8_allez_162 : decode cX8_allez 162 = .ok (.iload_n 2, 1) := by decide +kernel
theorem dX8_allez_163 : decode cX8_allez 163 = .ok (.iaload, 1) := by decide +kernel
theorem dX8_allez_164 : decode cX8_allez 164 = .ok (.ireturn, 1) := by decide +kernel
theorem dX8_latest_0 : decode cX8_latest 0 = .ok (.aload_n 0, 1) := by decide +kernel
theorem dX8_latest_1 : decode cX8_latest 1 = .ok (.getfield 47, 3) := by decide +kernel
theorem dX8_latest_4 : decode cX8_latest 4 = .ok (.invokestatic 164, 3) := by decide +kernel
theorem dX8_latest_7 : decode cX8_latest 7 = .ok (.istore_n 1, 1) := by decide +kernel
theorem dX8_latest_8 : decode cX8_latest 8 = .ok (.bipush 12, 2) := by decide +kernel
theorem dX8_latest_10 : decode cX8_latest 10 = .ok (.iload_n 1, 1) := by decide +kernel
theorem dX8_latest_11 : decode cX8_latest 11 = .ok (.imul, 1) := by decide +kernel
theorem dX8_latest_12 : decode cX8_latest 12 = .ok (.aload_n 0, 1) := by decide +kernel
theorem dX8_latest_13 : decode cX8_latest 13 = .ok (.getfield 26, 3) := by decide +kernel
theorem dX8_latest_16 : decode cX8_latest 16 = .ok (.iload_n 1, 1) := by decide +kernel
theorem dX8_latest_17 : decode cX8_latest 17 = .ok (.iaload, 1) := by decide +kernel
theorem dX8_latest_18 : decode cX8_latest 18 = .ok (.iadd, 1) := by decide +kernel
theorem dX8_latest_19 : decode cX8_latest 19 = .ok (.ireturn, 1) := by decide +kernel
theorem dX8_isTime_0 : decode cX8_isTime 0 = .ok (.iload_n 1, 1) := by decide +kernel
theorem dX8_isTime_1 : decode cX8_isTime 1 = .ok (.ifCond .lt 7, 3) := by decide +kernel
theorem dX8_isTime_4 : decode cX8_isTime 4 = .ok (.iconst 1, 1) := by decide +kernel
theorem dX8_isTime_5 : decode cX8_isTime 5 = .ok (.goto 4, 3) := by decide +kernel
theorem dX8_isTime_8 : decode cX8_isTime 8 = .ok (.iconst 0, 1) := by decide +kernel
theorem dX8_isTime_9 : decode cX8_isTime 9 = .ok (.istore_n 2, 1) := by decide +kernel
theorem dX8_isTime_10 : decode cX8_isTime 10 = .ok (.aload_n 0, 1) := by decide +kernel
theorem dX8_isTime_11 : decode cX8_isTime 11 = .ok (.getfield 112, 3) := by decide +kernel
theorem dX8_isTime_14 : decode cX8_isTime 14 = .ok (.ifCond .eq 49, 3) := by decide +kernel
theorem dX8_isTime_17 : decode cX8_isTime 17 = .ok (.aload_n 0, 1) := by decide +kernel
theorem dX8_isTime_18 : decode cX8_isTime 18 = .ok (.invokevirtual 170, 3) := by decide +kernel
theorem dX8_isTime_21 : decode cX8_isTime 21 = .ok (.istore_n 3, 1) := by decide +kernel
theorem dX8_isTime_22 : decode cX8_isTime 22 = .ok (.iload_n 2, 1) := by decide +kernel
theorem dX8_isTime_23 : decode cX8_isTime 23 = .ok (.ifCond .eq 38, 3) := by decide +kernel
theorem dX8_isTime_26 : decode cX8_isTime 26 = .ok (.aload_n 0, 1) := by decide +kernel
theorem dX8_isTime_27 : decode cX8_isTime 27 = .ok (.getfield 32, 3) := by decide +kernel
theorem dX8_isTime_30 : decode cX8_isTime 30 = .ok (.iload_n 3, 1) := by decide +kernel
theorem dX8_isTime_31 : decode cX8_isTime 31 = .ok (.iaload, 1) := by decide +kernel
theorem dX8_isTime_32 : decode cX8_isTime 32 = .ok (.ifCond .eq 25, 3) := by decide +kernel
theorem dX8_isTime_35 : decode cX8_isTime 35 = .ok (.iload_n 1, 1) := by decide +kernel
theorem dX8_isTime_36 : decode cX8_isTime 36 = .ok (.aload_n 0, 1) := by decide +kernel
theorem dX8_isTime_37 : decode cX8_isTime 37 = .ok (.getfield 44, 3) := by decide +kernel
theorem dX8_isTime_40 : decode cX8_isTime 40 = .ok (.bipush 8, 2) := by decide +kernel
theorem dX8_isTime_42 : decode cX8_isTime 42 = .ok (.iload_n 3, 1) := by decide +kernel
theorem dX8_isTime_43 : decode cX8_isTime 43 = .ok (.imul, 1) := by decide +kernel
theorem dX8_isTime_44 : decode cX8_isTime 44 = .ok (.aload_n 0, 1) := by decide +kernel
theorem dX8_isTime_45 : decode cX8_isTime 45 = .ok (.getfield 32, 3) := by decide +kernel
theorem dX8_isTime_48 : decode cX8_isTime 48 = .ok (.iload_n 3, 1) := by decide +kernel
theorem dX8_isTime_49 : decode cX8_isTime 49 = .ok (.iaload, 1) := by decide +kernel
theorem dX8_isTime_50 : decode cX8_isTime 50 = .ok (.iadd, 1) := by decide +kernel
theorem dX8_isTime_51 : decode cX8_isTime 51 = .ok (.iconst 1, 1) := by decide +kernel
theorem dX8_isTime_52 : decode cX8_isTime 52 = .ok (.isub, 1) := by decide +kernel
theorem dX8_isTime_53 : decode cX8_isTime 53 = .ok (.iaload, 1) := by decide +kernel
theorem dX8_isTime_54 : decode cX8_isTime 54 = .ok (.if_icmp .lt 7, 3) := by decide +kernel
theorem dX8_isTime_57 : decode cX8_isTime 57 = .ok (.iconst 1, 1) := by decide +kernel
theorem dX8_isTime_58 : decode cX8_isTime 58 = .ok (.goto 4, 3) := by decide +kernel
theorem dX8_isTime_61 : decode cX8_isTime 61 = .ok (.iconst 0, 1) := by decide +kernel
theorem dX8_isTime_62 : decode cX8_isTime 62 = .ok (.istore_n 2, 1) := by decide +kernel
theorem dX8_isTime_63 : decode cX8_isTime 63 = .ok (.iload_n 2, 1) := by decide +kernel
theorem dX8_isTime_64 : decode cX8_isTime 64 = .ok (.ireturn, 1) := by decide +kernel
theorem dX8_hears_0 : decode cX8_hears 0 = .ok (.aload_n 0, 1) := by decide +kernel
theorem dX8_hears_1 : decode cX8_hears 1 = .ok (.getfield 112, 3) := by decide +kernel
theorem dX8_hears_4 : decode cX8_hears 4 = .ok (.ifCond .eq 21, 3) := by decide +kernel
theorem dX8_hears_7 : decode cX8_hears 7 = .ok (.aload_n 0, 1) := by decide +kernel
theorem dX8_hears_8 : decode cX8_hears 8 = .ok (.getfield 32, 3) := by decide +kernel
theorem dX8_hears_11 : decode cX8_hears 11 = .ok (.aload_n 0, 1) := by decide +kernel
theorem dX8_hears_12 : decode cX8_hears 12 = .ok (.invokevirtual 170, 3) := by decide +kernel
theorem dX8_hears_15 : decode cX8_hears 15 = .ok (.iaload, 1) := by decide +kernel
theorem dX8_hears_16 : decode cX8_hears 16 = .ok (.bipush 8, 2) := by decide +kernel
theorem dX8_hears_18 : decode cX8_hears 18 = .ok (.if_icmp .ge 7, 3) := by decide +kernel
theorem dX8_hears_21 : decode cX8_hears 21 = .ok (.iconst 1, 1) := by decide +kernel
theorem dX8_hears_22 : decode cX8_hears 22 = .ok (.goto 4, 3) := by decide +kernel
theorem dX8_hears_25 : decode cX8_hears 25 = .ok (.iconst 0, 1) := by decide +kernel
theorem dX8_hears_26 : decode cX8_hears 26 = .ok (.ireturn, 1) := by decide +kernel
theorem dX8_event_0 : decode cX8_event 0 = .ok (.aload_n 0, 1) := by decide +kernel
theorem dX8_event_1 : decode cX8_event 1 = .ok (.invokevirtual 170, 3) := by decide +kernel
theorem dX8_event_4 : decode cX8_event 4 = .ok (.istore_n 3, 1) := by decide +kernel
theorem dX8_event_5 : decode cX8_event 5 = .ok (.aload_n 0, 1) := by decide +kernel
theorem dX8_event_6 : decode cX8_event 6 = .ok (.getfield 41, 3) := by decide +kernel
theorem dX8_event_9 : decode cX8_event 9 = .ok (.bipush 8, 2) := by decide +kernel
theorem dX8_event_11 : decode cX8_event 11 = .ok (.iload_n 3, 1) := by decide +kernel
theorem dX8_event_12 : decode cX8_event 12 = .ok (.imul, 1) := by decide +kernel
theorem dX8_event_13 : decode cX8_event 13 = .ok (.aload_n 0, 1) := by decide +kernel
theorem dX8_event_14 : decode cX8_event 14 = .ok (.getfield 32, 3) := by decide +kernel
theorem dX8_event_17 : decode cX8_event 17 = .ok (.iload_n 3, 1) := by decide +kernel
theorem dX8_event_18 : decode cX8_event 18 = .ok (.iaload, 1) := by decide +kernel
theorem dX8_event_19 : decode cX8_event 19 = .ok (.iadd, 1) := by decide +kernel
theorem dX8_event_20 : decode cX8_event 20 = .ok (.iload_n 1, 1) := by decide +kernel
theorem dX8_event_21 : decode cX8_event 21 = .ok (.iastore, 1) := by decide +kernel
theorem dX8_event_22 : decode cX8_event 22 = .ok (.aload_n 0, 1) := by decide +kernel
theorem dX8_event_23 : decode cX8_event 23 = .ok (.getfield 44, 3) := by decide +kernel
theorem dX8_event_26 : decode cX8_event 26 = .ok (.bipush 8, 2) := by decide +kernel
theorem dX8_event_28 : decode cX8_event 28 = .ok (.iload_n 3, 1) := by decide +kernel
theorem dX8_event_29 : decode cX8_event 29 = .ok (.imul, 1) := by decide +kernel
theorem dX8_event_30 : decode cX8_event 30 = .ok (.aload_n 0, 1) := by decide +kernel
theorem dX8_event_31 : decode cX8_event 31 = .ok (.getfield 32, 3) := by decide +kernel
theorem dX8_event_34 : decode cX8_event 34 = .ok (.iload_n 3, 1) := by decide +kernel
theorem dX8_event_35 : decode cX8_event 35 = .ok (.iaload, 1) := by decide +kernel
theorem dX8_event_36 : decode cX8_event 36 = .ok (.iadd, 1) := by decide +kernel
theorem dX8_event_37 : decode cX8_event 37 = .ok (.iload_n 2, 1) := by decide +kernel
theorem dX8_event_38 : decode cX8_event 38 = .ok (.iastore, 1) := by decide +kernel
theorem dX8_event_39 : decode cX8_event 39 = .ok (.aload_n 0, 1) := by decide +kernel
theorem dX8_event_40 : decode cX8_event 40 = .ok (.getfield 32, 3) := by decide +kernel
theorem dX8_event_43 : decode cX8_event 43 = .ok (.iload_n 3, 1) := by decide +kernel
theorem dX8_event_44 : decode cX8_event 44 = .ok (.dup2, 1) := by decide +kernel
theorem dX8_event_45 : decode cX8_event 45 = .ok (.iaload, 1) := by decide +kernel
theorem dX8_event_46 : decode cX8_event 46 = .ok (.iconst 1, 1) := by decide +kernel
theorem dX8_event_47 : decode cX8_event 47 = .ok (.iadd, 1) := by decide +kernel
theorem dX8_event_48 : decode cX8_event 48 = .ok (.iastore, 1) := by decide +kernel
theorem dX8_event_49 : decode cX8_event 49 = .ok (.aload_n 0, 1) := by decide +kernel
theorem dX8_event_50 : decode cX8_event 50 = .ok (.getfield 32, 3) := by decide +kernel
theorem dX8_event_53 : decode cX8_event 53 = .ok (.iload_n 3, 1) := by decide +kernel
theorem dX8_event_54 : decode cX8_event 54 = .ok (.iaload, 1) := by decide +kernel
theorem dX8_event_55 : decode cX8_event 55 = .ok (.ireturn, 1) := by decide +kernel
theorem dX8_contact_0 : decode cX8_contact 0 = .ok (.aload_n 0, 1) := by decide +kernel
theorem dX8_contact_1 : decode cX8_contact 1 = .ok (.iload_n 1, 1) := by decide +kernel
theorem dX8_contact_2 : decode cX8_contact 2 = .ok (.invokestatic 167, 3) := by decide +kernel
theorem dX8_contact_5 : decode cX8_contact 5 = .ok (.aload_n 0, 1) := by decide +kernel
theorem dX8_contact_6 : decode cX8_contact 6 = .ok (.iload_n 3, 1) := by decide +kernel
theorem dX8_contact_7 : decode cX8_contact 7 = .ok (.invokevirtual 174, 3) := by decide +kernel
theorem dX8_contact_10 : decode cX8_contact 10 = .ok (.aload_n 0, 1) := by decide +kernel
theorem dX8_contact_11 : decode cX8_contact 11 = .ok (.invokevirtual 177, 3) := by decide +kernel
theorem dX8_contact_14 : decode cX8_contact 14 = .ok (.invokevirtual 101, 3) := by decide +kernel
theorem dX8_contact_17 : decode cX8_contact 17 = .ok (.ifCond .eq 24, 3) := by decide +kernel
theorem dX8_contact_20 : decode cX8_contact 20 = .ok (.aload_n 0, 1) := by decide +kernel
theorem dX8_contact_21 : decode cX8_contact 21 = .ok (.iconst 2, 1) := by decide +kernel
theorem dX8_contact_22 : decode cX8_contact 22 = .ok (.iload_n 1, 1) := by decide +kernel
theorem dX8_contact_23 : decode cX8_contact 23 = .ok (.imul, 1) := by decide +kernel
theorem dX8_contact_24 : decode cX8_contact 24 = .ok (.iload_n 2, 1) := by decide +kernel
theorem dX8_contact_25 : decode cX8_contact 25 = .ok (.ifCond .eq 7, 3) := by decide +kernel
theorem dX8_contact_28 : decode cX8_contact 28 = .ok (.iconst 1, 1) := by decide +kernel
theorem dX8_contact_29 : decode cX8_contact 29 = .ok (.goto 4, 3) := by decide +kernel
theorem dX8_contact_32 : decode cX8_contact 32 = .ok (.iconst 0, 1) := by decide +kernel
theorem dX8_contact_33 : decode cX8_contact 33 = .ok (.iadd, 1) := by decide +kernel
theorem dX8_contact_34 : decode cX8_contact 34 = .ok (.iload_n 3, 1) := by decide +kernel
theorem dX8_contact_35 : decode cX8_contact 35 = .ok (.invokevirtual 181, 3) := by decide +kernel
theorem dX8_contact_38 : decode cX8_contact 38 = .ok (.goto 4, 3) := by decide +kernel
theorem dX8_contact_41 : decode cX8_contact 41 = .ok (.iconst 0, 1) := by decide +kernel
theorem dX8_contact_42 : decode cX8_contact 42 = .ok (.ireturn, 1) := by decide +kernel
theorem dX8_right_0 : decode cX8_right 0 = .ok (.aload_n 0, 1) := by decide +kernel
theorem dX8_right_1 : decode cX8_right 1 = .ok (.iload_n 1, 1) := by decide +kernel
theorem dX8_right_2 : decode cX8_right 2 = .ok (.iconst (-1), 1) := by decide +kernel
theorem dX8_right_3 : decode cX8_right 3 = .ok (.iconst 1, 1) := by decide +kernel
theorem dX8_right_4 : decode cX8_right 4 = .ok (.invokestatic 85, 3) := by decide +kernel
theorem dX8_right_7 : decode cX8_right 7 = .ok (.ifCond .eq 15, 3) := by decide +kernel
theorem dX8_right_10 : decode cX8_right 10 = .ok (.aload_n 0, 1) := by decide +kernel
theorem dX8_right_11 : decode cX8_right 11 = .ok (.iload_n 2, 1) := by decide +kernel
theorem dX8_right_12 : decode cX8_right 12 = .ok (.invokevirtual 174, 3) := by decide +kernel
theorem dX8_right_15 : decode cX8_right 15 = .ok (.ifCond .eq 7, 3) := by decide +kernel
theorem dX8_right_18 : decode cX8_right 18 = .ok (.iconst 1, 1) := by decide +kernel
theorem dX8_right_19 : decode cX8_right 19 = .ok (.goto 4, 3) := by decide +kernel
theorem dX8_right_22 : decode cX8_right 22 = .ok (.iconst 0, 1) := by decide +kernel
theorem dX8_right_23 : decode cX8_right 23 = .ok (.aload_n 0, 1) := by decide +kernel
theorem dX8_right_24 : decode cX8_right 24 = .ok (.invokevirtual 177, 3) := by decide +kernel
theorem dX8_right_27 : decode cX8_right 27 = .ok (.iconst 1, 1) := by decide +kernel
theorem dX8_right_28 : decode cX8_right 28 = .ok (.invokevirtual 101, 3) := by decide +kernel
theorem dX8_right_31 : decode cX8_right 31 = .ok (.ifCond .eq 14, 3) := by decide +kernel
theorem dX8_right_34 : decode cX8_right 34 = .ok (.aload_n 0, 1) := by decide +kernel
theorem dX8_right_35 : decode cX8_right 35 = .ok (.iconst 5, 1) := by decide +kernel
theorem dX8_right_36 : decode cX8_right 36 = .ok (.iload_n 1, 1) := by decide +kernel
theorem dX8_right_37 : decode cX8_right 37 = .ok (.iadd, 1) := by decide +kernel
theorem dX8_right_38 : decode cX8_right 38 = .ok (.iload_n 2, 1) := by decide +kernel
theorem dX8_right_39 : decode cX8_right 39 = .ok (.invokevirtual 181, 3) := by decide +kernel
theorem dX8_right_42 : decode cX8_right 42 = .ok (.goto 4, 3) := by decide +kernel
theorem dX8_right_45 : decode cX8_right 45 = .ok (.iconst 0, 1) := by decide +kernel
theorem dX8_right_46 : decode cX8_right 46 = .ok (.ireturn, 1) := by decide +kernel
theorem dX8_halt_0 : decode cX8_halt 0 = .ok (.aload_n 0, 1) := by decide +kernel
theorem dX8_halt_1 : decode cX8_halt 1 = .ok (.aload_n 0, 1) := by decide +kernel
theorem dX8_halt_2 : decode cX8_halt 2 = .ok (.getfield 112, 3) := by decide +kernel
theorem dX8_halt_5 : decode cX8_halt 5 = .ok (.iconst 1, 1) := by decide +kernel
theorem dX8_halt_6 : decode cX8_halt 6 = .ok (.iconst 1, 1) := by decide +kernel
theorem dX8_halt_7 : decode cX8_halt 7 = .ok (.invokevirtual 101, 3) := by decide +kernel
theorem dX8_halt_10 : decode cX8_halt 10 = .ok (.ifCond .ne 5, 3) := by decide +kernel
theorem dX8_halt_13 : decode cX8_halt 13 = .ok (.iconst 0, 1) := by decide +kernel
theorem dX8_halt_14 : decode cX8_halt 14 = .ok (.ireturn, 1) := by decide +kernel
theorem dX8_halt_15 : decode cX8_halt 15 = .ok (.aload_n 0, 1) := by decide +kernel
theorem dX8_halt_16 : decode cX8_halt 16 = .ok (.getfield 47, 3) := by decide +kernel
theorem dX8_halt_19 : decode cX8_halt 19 = .ok (.invokestatic 164, 3) := by decide +kernel
theorem dX8_halt_22 : decode cX8_halt 22 = .ok (.istore_n 1, 1) := by decide +kernel
theorem dX8_halt_23 : decode cX8_halt 23 = .ok (.aload_n 0, 1) := by decide +kernel
theorem dX8_halt_24 : decode cX8_halt 24 = .ok (.getfield 26, 3) := by decide +kernel
theorem dX8_halt_27 : decode cX8_halt 27 = .ok (.iload_n 1, 1) := by decide +kernel
theorem dX8_halt_28 : decode cX8_halt 28 = .ok (.dup2, 1) := by decide +kernel
theorem dX8_halt_29 : decode cX8_halt 29 = .ok (.iaload, 1) := by decide +kernel
theorem dX8_halt_30 : decode cX8_halt 30 = .ok (.iconst 1, 1) := by decide +kernel
theorem dX8_halt_31 : decode cX8_halt 31 = .ok (.iadd, 1) := by decide +kernel
theorem dX8_halt_32 : decode cX8_halt 32 = .ok (.iastore, 1) := by decide +kernel
theorem dX8_halt_33 : decode cX8_halt 33 = .ok (.aload_n 0, 1) := by decide +kernel
theorem dX8_halt_34 : decode cX8_halt 34 = .ok (.iconst 0, 1) := by decide +kernel
theorem dX8_halt_35 : decode cX8_halt 35 = .ok (.putfield 112, 3) := by decide +kernel
theorem dX8_halt_38 : decode cX8_halt 38 = .ok (.aload_n 0, 1) := by decide +kernel
theorem dX8_halt_39 : decode cX8_halt 39 = .ok (.iconst 1, 1) := by decide +kernel
theorem dX8_halt_40 : decode cX8_halt 40 = .ok (.putfield 161, 3) := by decide +kernel
theorem dX8_halt_43 : decode cX8_halt 43 = .ok (.aload_n 0, 1) := by decide +kernel
theorem dX8_halt_44 : decode cX8_halt 44 = .ok (.iload_n 1, 1) := by decide +kernel
theorem dX8_halt_45 : decode cX8_halt 45 = .ok (.aload_n 0, 1) := by decide +kernel
theorem dX8_halt_46 : decode cX8_halt 46 = .ok (.getfield 26, 3) := by decide +kernel
theorem dX8_halt_49 : decode cX8_halt 49 = .ok (.iload_n 1, 1) := by decide +kernel
theorem dX8_halt_50 : decode cX8_halt 50 = .ok (.iaload, 1) := by decide +kernel
theorem dX8_halt_51 : decode cX8_halt 51 = .ok (.iconst 1, 1) := by decide +kernel
theorem dX8_halt_52 : decode cX8_halt 52 = .ok (.isub, 1) := by decide +kernel
theorem dX8_halt_53 : decode cX8_halt 53 = .ok (.invokevirtual 138, 3) := by decide +kernel
theorem dX8_halt_56 : decode cX8_halt 56 = .ok (.istore_n 2, 1) := by decide +kernel
theorem dX8_halt_57 : decode cX8_halt 57 = .ok (.aload_n 0, 1) := by decide +kernel
theorem dX8_halt_58 : decode cX8_halt 58 = .ok (.invokevirtual 115, 3) := by decide +kernel
theorem dX8_halt_61 : decode cX8_halt 61 = .ok (.iload_n 2, 1) := by decide +kernel
theorem dX8_halt_62 : decode cX8_halt 62 = .ok (.ireturn, 1) := by decide +kernel
theorem dX8_appeal_0 : decode cX8_appeal 0 = .ok (.aload_n 0, 1) := by decide +kernel
theorem dX8_appeal_1 : decode cX8_appeal 1 = .ok (.getfield 47, 3) := by decide +kernel
theorem dX8_appeal_4 : decode cX8_appeal 4 = .ok (.iconst (-1), 1) := by decide +kernel
theorem dX8_appeal_5 : decode cX8_appeal 5 = .ok (.if_icmp .eq 28, 3) := by decide +kernel
theorem dX8_appeal_8 : decode cX8_appeal 8 = .ok (.aload_n 0, 1) := by decide +kernel
theorem dX8_appeal_9 : decode cX8_appeal 9 = .ok (.getfield 112, 3) := by decide +kernel
theorem dX8_appeal_12 : decode cX8_appeal 12 = .ok (.ifCond .ne 21, 3) := by decide +kernel
theorem dX8_appeal_15 : decode cX8_appeal 15 = .ok (.aload_n 0, 1) := by decide +kernel
theorem dX8_appeal_16 : decode cX8_appeal 16 = .ok (.getfield 161, 3) := by decide +kernel
theorem dX8_appeal_19 : decode cX8_appeal 19 = .ok (.ifCond .eq 14, 3) := by decide +kernel
theorem dX8_appeal_22 : decode cX8_appeal 22 = .ok (.iload_n 1, 1) := by decide +kernel
theorem dX8_appeal_23 : decode cX8_appeal 23 = .ok (.invokestatic 167, 3) := by decide +kernel
theorem dX8_appeal_26 : decode cX8_appeal 26 = .ok (.ifCond .eq 7, 3) := by decide +kernel
theorem dX8_appeal_29 : decode cX8_appeal 29 = .ok (.iconst 1, 1) := by decide +kernel
theorem dX8_appeal_30 : decode cX8_appeal 30 = .ok (.goto 4, 3) := by decide +kernel
theorem dX8_appeal_33 : decode cX8_appeal 33 = .ok (.iconst 0, 1) := by decide +kernel
theorem dX8_appeal_34 : decode cX8_appeal 34 = .ok (.istore_n 3, 1) := by decide +kernel
theorem dX8_appeal_35 : decode cX8_appeal 35 = .ok (.iload_n 3, 1) := by decide +kernel
theorem dX8_appeal_36 : decode cX8_appeal 36 = .ok (.ifCond .eq 27, 3) := by decide +kernel
theorem dX8_appeal_39 : decode cX8_appeal 39 = .ok (.aload_n 0, 1) := by decide +kernel
theorem dX8_appeal_40 : decode cX8_appeal 40 = .ok (.getfield 29, 3) := by decide +kernel
theorem dX8_appeal_43 : decode cX8_appeal 43 = .ok (.iconst 2, 1) := by decide +kernel
theorem dX8_appeal_44 : decode cX8_appeal 44 = .ok (.aload_n 0, 1) := by decide +kernel
theorem dX8_appeal_45 : decode cX8_appeal 45 = .ok (.getfield 47, 3) := by decide +kernel
theorem dX8_appeal_48 : decode cX8_appeal 48 = .ok (.invokestatic 164, 3) := by decide +kernel
theorem dX8_appeal_51 : decode cX8_appeal 51 = .ok (.imul, 1) := by decide +kernel
theorem dX8_appeal_52 : decode cX8_appeal 52 = .ok (.iload_n 1, 1) := by decide +kernel
theorem dX8_appeal_53 : decode cX8_appeal 53 = .ok (.iadd, 1) := by decide +kernel
theorem dX8_appeal_54 : decode cX8_appeal 54 = .ok (.iaload, 1) := by decide +kernel
theorem dX8_appeal_55 : decode cX8_appeal 55 = .ok (.iconst 2, 1) := by decide +kernel
theorem dX8_appeal_56 : decode cX8_appeal 56 = .ok (.if_icmp .ge 7, 3) := by decide +kernel
theorem dX8_appeal_59 : decode cX8_appeal 59 = .ok (.iconst 1, 1) := by decide +kernel
theorem dX8_appeal_60 : decode cX8_appeal 60 = .ok (.goto 4, 3) := by decide +kernel
theorem dX8_appeal_63 : decode cX8_appeal 63 = .ok (.iconst 0, 1) := by decide +kernel
theorem dX8_appeal_64 : decode cX8_appeal 64 = .ok (.istore_n 3, 1) := by decide +kernel
theorem dX8_appeal_65 : decode cX8_appeal 65 = .ok (.aload_n 0, 1) := by decide +kernel
theorem dX8_appeal_66 : decode cX8_appeal 66 = .ok (.iload_n 1, 1) := by decide +kernel
theorem dX8_appeal_67 : decode cX8_appeal 67 = .ok (.invokestatic 167, 3) := by decide +kernel
theorem dX8_appeal_70 : decode cX8_appeal 70 = .ok (.iload_n 2, 1) := by decide +kernel
theorem dX8_appeal_71 : decode cX8_appeal 71 = .ok (.iconst (-1), 1) := by decide +kernel
theorem dX8_appeal_72 : decode cX8_appeal 72 = .ok (.iconst 1, 1) := by decide +kernel
theorem dX8_appeal_73 : decode cX8_appeal 73 = .ok (.invokestatic 85, 3) := by decide +kernel
theorem dX8_appeal_76 : decode cX8_appeal 76 = .ok (.iload_n 3, 1) := by decide +kernel
theorem dX8_appeal_77 : decode cX8_appeal 77 = .ok (.invokevirtual 101, 3) := by decide +kernel
theorem dX8_appeal_80 : decode cX8_appeal 80 = .ok (.ifCond .ne 5, 3) := by decide +kernel
theorem dX8_appeal_83 : decode cX8_appeal 83 = .ok (.iconst 0, 1) := by decide +kernel
theorem dX8_appeal_84 : decode cX8_appeal 84 = .ok (.ireturn, 1) := by decide +kernel
theorem dX8_appeal_85 : decode cX8_appeal 85 = .ok (.aload_n 0, 1) := by decide +kernel
theorem dX8_appeal_86 : decode cX8_appeal 86 = .ok (.getfield 47, 3) := by decide +kernel
theorem dX8_appeal_89 : decode cX8_appeal 89 = .ok (.invokestatic 164, 3) := by decide +kernel
theorem dX8_appeal_92 : decode cX8_appeal 92 = .ok (.istore 4, 2) := by decide +kernel
theorem dX8_appeal_94 : decode cX8_appeal 94 = .ok (.aload_n 0, 1) := by decide +kernel
theorem dX8_appeal_95 : decode cX8_appeal 95 = .ok (.getfield 26, 3) := by decide +kernel
theorem dX8_appeal_98 : decode cX8_appeal 98 = .ok (.iload 4, 2) := by decide +kernel
theorem dX8_appeal_100 : decode cX8_appeal 100 = .ok (.iaload, 1) := by decide +kernel
theorem dX8_appeal_101 : decode cX8_appeal 101 = .ok (.iconst 1, 1) := by decide +kernel
theorem dX8_appeal_102 : decode cX8_appeal 102 = .ok (.isub, 1) := by decide +kernel
theorem dX8_appeal_103 : decode cX8_appeal 103 = .ok (.istore 5, 2) := by decide +kernel
theorem dX8_appeal_105 : decode cX8_appeal 105 = .ok (.aload_n 0, 1) := by decide +kernel
theorem dX8_appeal_106 : decode cX8_appeal 106 = .ok (.iload 4, 2) := by decide +kernel
theorem dX8_appeal_108 : decode cX8_appeal 108 = .ok (.iload 5, 2) := by decide +kernel
theorem dX8_appeal_110 : decode cX8_appeal 110 = .ok (.invokevirtual 138, 3) := by decide +kernel
theorem dX8_appeal_113 : decode cX8_appeal 113 = .ok (.istore 6, 2) := by decide +kernel
theorem dX8_appeal_115 : decode cX8_appeal 115 = .ok (.aload_n 0, 1) := by decide +kernel
theorem dX8_appeal_116 : decode cX8_appeal 116 = .ok (.getfield 38, 3) := by decide +kernel
theorem dX8_appeal_119 : decode cX8_appeal 119 = .ok (.bipush 12, 2) := by decide +kernel
theorem dX8_appeal_121 : decode cX8_appeal 121 = .ok (.iload 4, 2) := by decide +kernel
theorem dX8_appeal_123 : decode cX8_appeal 123 = .ok (.imul, 1) := by decide +kernel
theorem dX8_appeal_124 : decode cX8_appeal 124 = .ok (.iload 5, 2) := by decide +kernel
theorem dX8_appeal_126 : decode cX8_appeal 126 = .ok (.iadd, 1) := by decide +kernel
theorem dX8_appeal_127 : decode cX8_appeal 127 = .ok (.iload_n 2, 1) := by decide +kernel
theorem dX8_appeal_128 : decode cX8_appeal 128 = .ok (.iastore, 1) := by decide +kernel
theorem dX8_appeal_129 : decode cX8_appeal 129 = .ok (.aload_n 0, 1) := by decide +kernel
theorem dX8_appeal_130 : decode cX8_appeal 130 = .ok (.iload 4, 2) := by decide +kernel
theorem dX8_appeal_132 : decode cX8_appeal 132 = .ok (.iload 5, 2) := by decide +kernel
theorem dX8_appeal_134 : decode cX8_appeal 134 = .ok (.invokevirtual 138, 3) := by decide +kernel
theorem dX8_appeal_137 : decode cX8_appeal 137 = .ok (.istore 7, 2) := by decide +kernel
theorem dX8_appeal_139 : decode cX8_appeal 139 = .ok (.aload_n 0, 1) := by decide +kernel
theorem dX8_appeal_140 : decode cX8_appeal 140 = .ok (.getfield 29, 3) := by decide +kernel
theorem dX8_appeal_143 : decode cX8_appeal 143 = .ok (.iconst 2, 1) := by decide +kernel
theorem dX8_appeal_144 : decode cX8_appeal 144 = .ok (.iload 4, 2) := by decide +kernel
theorem dX8_appeal_146 : decode cX8_appeal 146 = .ok (.imul, 1) := by decide +kernel
theorem dX8_appeal_147 : decode cX8_appeal 147 = .ok (.iload_n 1, 1) := by decide +kernel
theorem dX8_appeal_148 : decode cX8_appeal 148 = .ok (.iadd, 1) := by decide +kernel
theorem dX8_appeal_149 : decode cX8_appeal 149 = .ok (.dup2, 1) := by decide +kernel
theorem dX8_appeal_150 : decode cX8_appeal 150 = .ok (.iaload, 1) := by decide +kernel
theorem dX8_appeal_151 : decode cX8_appeal 151 = .ok (.iload 7, 2) := by decide +kernel
theorem dX8_appeal_153 : decode cX8_appeal 153 = .ok (.iload 6, 2) := by decide +kernel
theorem dX8_appeal_155 : decode cX8_appeal 155 = .ok (.if_icmp .ne 7, 3) := by decide +kernel
theorem dX8_appeal_158 : decode cX8_appeal 158 = .ok (.iconst 1, 1) := by decide +kernel
theorem dX8_appeal_159 : decode cX8_appeal 159 = .ok (.goto 4, 3) := by decide +kernel
theorem dX8_appeal_162 : decode cX8_appeal 162 = .ok (.iconst 0, 1) := by decide +kernel
theorem dX8_appeal_163 : decode cX8_appeal 163 = .ok (.iadd, 1) := by decide +kernel
theorem dX8_appeal_164 : decode cX8_appeal 164 = .ok (.iastore, 1) := by decide +kernel
theorem dX8_appeal_165 : decode cX8_appeal 165 = .ok (.aload_n 0, 1) := by decide +kernel
theorem dX8_appeal_166 : decode cX8_appeal 166 = .ok (.invokevirtual 115, 3) := by decide +kernel
theorem dX8_appeal_169 : decode cX8_appeal 169 = .ok (.iload 7, 2) := by decide +kernel
theorem dX8_appeal_171 : decode cX8_appeal 171 = .ok (.ireturn, 1) := by decide +kernel
theorem dX8_piste_0 : decode cX8_piste 0 = .ok (.aload_n 0, 1) := by decide +kernel
theorem dX8_piste_1 : decode cX8_piste 1 = .ok (.iconst 0, 1) := by decide +kernel
theorem dX8_piste_2 : decode cX8_piste 2 = .ok (.putfield 79, 3) := by decide +kernel
theorem dX8_piste_5 : decode cX8_piste 5 = .ok (.aload_n 0, 1) := by decide +kernel
theorem dX8_piste_6 : decode cX8_piste 6 = .ok (.getfield 47, 3) := by decide +kernel
theorem dX8_piste_9 : decode cX8_piste 9 = .ok (.ireturn, 1) := by decide +kernel
theorem dX8_isFencing_0 : decode cX8_isFencing 0 = .ok (.aload_n 0, 1) := by decide +kernel
theorem dX8_isFencing_1 : decode cX8_isFencing 1 = .ok (.iconst 0, 1) := by decide +kernel
theorem dX8_isFencing_2 : decode cX8_isFencing 2 = .ok (.putfield 79, 3) := by decide +kernel
theorem dX8_isFencing_5 : decode cX8_isFencing 5 = .ok (.aload_n 0, 1) := by decide +kernel
theorem dX8_isFencing_6 : decode cX8_isFencing 6 = .ok (.getfield 112, 3) := by decide +kernel
theorem dX8_isFencing_9 : decode cX8_isFencing 9 = .ok (.ireturn, 1) := by decide +kernel
theorem dX8_weaponOf_0 : decode cX8_weaponOf 0 = .ok (.aload_n 0, 1) := by decide +kernel
theorem dX8_weaponOf_1 : decode cX8_weaponOf 1 = .ok (.iload_n 1, 1) := by decide +kernel
theorem dX8_weaponOf_2 : decode cX8_weaponOf 2 = .ok (.invokestatic 167, 3) := by decide +kernel
theorem dX8_weaponOf_5 : decode cX8_weaponOf 5 = .ok (.iconst 1, 1) := by decide +kernel
theorem dX8_weaponOf_6 : decode cX8_weaponOf 6 = .ok (.iconst 1, 1) := by decide +kernel
theorem dX8_weaponOf_7 : decode cX8_weaponOf 7 = .ok (.invokevirtual 101, 3) := by decide +kernel
theorem dX8_weaponOf_10 : decode cX8_weaponOf 10 = .ok (.ifCond .eq 24, 3) := by decide +kernel
theorem dX8_weaponOf_13 : decode cX8_weaponOf 13 = .ok (.aload_n 0, 1) := by decide +kernel
theorem dX8_weaponOf_14 : decode cX8_weaponOf 14 = .ok (.getfield 47, 3) := by decide +kernel
theorem dX8_weaponOf_17 : decode cX8_weaponOf 17 = .ok (.iconst (-1), 1) := by decide +kernel
theorem dX8_weaponOf_18 : decode cX8_weaponOf 18 = .ok (.if_icmp .ne 7, 3) := by decide +kernel
theorem dX8_weaponOf_21 : decode cX8_weaponOf 21 = .ok (.iconst (-1), 1) := by decide +kernel
theorem dX8_weaponOf_22 : decode cX8_weaponOf 22 = .ok (.goto 13, 3) := by decide +kernel
theorem dX8_weaponOf_25 : decode cX8_weaponOf 25 = .ok (.aload_n 0, 1) := by decide +kernel
theorem dX8_weaponOf_26 : decode cX8_weaponOf 26 = .ok (.getfield 51, 3) := by decide +kernel
theorem dX8_weaponOf_29 : decode cX8_weaponOf 29 = .ok (.iload_n 1, 1) := by decide +kernel
theorem dX8_weaponOf_30 : decode cX8_weaponOf 30 = .ok (.iaload, 1) := by decide +kernel
theorem dX8_weaponOf_31 : decode cX8_weaponOf 31 = .ok (.goto 4, 3) := by decide +kernel
theorem dX8_weaponOf_34 : decode cX8_weaponOf 34 = .ok (.iconst 0, 1) := by decide +kernel
theorem dX8_weaponOf_35 : decode cX8_weaponOf 35 = .ok (.ireturn, 1) := by decide +kernel
theorem dX8_fencerOf_0 : decode cX8_fencerOf 0 = .ok (.aload_n 0, 1) := by decide +kernel
theorem dX8_fencerOf_1 : decode cX8_fencerOf 1 = .ok (.aload_n 0, 1) := by decide +kernel
theorem dX8_fencerOf_2 : decode cX8_fencerOf 2 = .ok (.iload_n 1, 1) := by decide +kernel
theorem dX8_fencerOf_3 : decode cX8_fencerOf 3 = .ok (.invokevirtual 152, 3) := by decide +kernel
theorem dX8_fencerOf_6 : decode cX8_fencerOf 6 = .ok (.ifCond .eq 14, 3) := by decide +kernel
theorem dX8_fencerOf_9 : decode cX8_fencerOf 9 = .ok (.iload_n 2, 1) := by decide +kernel
theorem dX8_fencerOf_10 : decode cX8_fencerOf 10 = .ok (.invokestatic 167, 3) := by decide +kernel
theorem dX8_fencerOf_13 : decode cX8_fencerOf 13 = .ok (.ifCond .eq 7, 3) := by decide +kernel
theorem dX8_fencerOf_16 : decode cX8_fencerOf 16 = .ok (.iconst 1, 1) := by decide +kernel
theorem dX8_fencerOf_17 : decode cX8_fencerOf 17 = .ok (.goto 4, 3) := by decide +kernel
theorem dX8_fencerOf_20 : decode cX8_fencerOf 20 = .ok (.iconst 0, 1) := by decide +kernel
theorem dX8_fencerOf_21 : decode cX8_fencerOf 21 = .ok (.iconst 1, 1) := by decide +kernel
theorem dX8_fencerOf_22 : decode cX8_fencerOf 22 = .ok (.iconst 1, 1) := by decide +kernel
theorem dX8_fencerOf_23 : decode cX8_fencerOf 23 = .ok (.invokevirtual 101, 3) := by decide +kernel
theorem dX8_fencerOf_26 : decode cX8_fencerOf 26 = .ok (.ifCond .ne 5, 3) := by decide +kernel
theorem dX8_fencerOf_29 : decode cX8_fencerOf 29 = .ok (.iconst 0, 1) := by decide +kernel
theorem dX8_fencerOf_30 : decode cX8_fencerOf 30 = .ok (.ireturn, 1) := by decide +kernel
theorem dX8_fencerOf_31 : decode cX8_fencerOf 31 = .ok (.aload_n 0, 1) := by decide +kernel
theorem dX8_fencerOf_32 : decode cX8_fencerOf 32 = .ok (.iload_n 1, 1) := by decide +kernel
theorem dX8_fencerOf_33 : decode cX8_fencerOf 33 = .ok (.iload_n 2, 1) := by decide +kernel
theorem dX8_fencerOf_34 : decode cX8_fencerOf 34 = .ok (.invokevirtual 149, 3) := by decide +kernel
theorem dX8_fencerOf_37 : decode cX8_fencerOf 37 = .ok (.istore_n 3, 1) := by decide +kernel
theorem dX8_fencerOf_38 : decode cX8_fencerOf 38 = .ok (.iload_n 3, 1) := by decide +kernel
theorem dX8_fencerOf_39 : decode cX8_fencerOf 39 = .ok (.ifCond .ge 7, 3) := by decide +kernel
theorem dX8_fencerOf_42 : decode cX8_fencerOf 42 = .ok (.iconst (-1), 1) := by decide +kernel
theorem dX8_fencerOf_43 : decode cX8_fencerOf 43 = .ok (.goto 4, 3) := by decide +kernel
theorem dX8_fencerOf_46 : decode cX8_fencerOf 46 = .ok (.iload_n 3, 1) := by decide +kernel
theorem dX8_fencerOf_47 : decode cX8_fencerOf 47 = .ok (.ireturn, 1) := by decide +kernel
theorem dX8_score_0 : decode cX8_score 0 = .ok (.aload_n 0, 1) := by decide +kernel
theorem dX8_score_1 : decode cX8_score 1 = .ok (.aload_n 0, 1) := by decide +kernel
theorem dX8_score_2 : decode cX8_score 2 = .ok (.iload_n 1, 1) := by decide +kernel
theorem dX8_score_3 : decode cX8_score 3 = .ok (.invokevirtual 152, 3) := by decide +kernel
theorem dX8_score_6 : decode cX8_score 6 = .ok (.ifCond .eq 14, 3) := by decide +kernel
theorem dX8_score_9 : decode cX8_score 9 = .ok (.iload_n 2, 1) := by decide +kernel
theorem dX8_score_10 : decode cX8_score 10 = .ok (.invokestatic 167, 3) := by decide +kernel
theorem dX8_score_13 : decode cX8_score 13 = .ok (.ifCond .eq 7, 3) := by decide +kernel
theorem dX8_score_16 : decode cX8_score 16 = .ok (.iconst 1, 1) := by decide +kernel
theorem dX8_score_17 : decode cX8_score 17 = .ok (.goto 4, 3) := by decide +kernel
theorem dX8_score_20 : decode cX8_score 20 = .ok (.iconst 0, 1) := by decide +kernel
theorem dX8_score_21 : decode cX8_score 21 = .ok (.iconst 1, 1) := by decide +kernel
theorem dX8_score_22 : decode cX8_score 22 = .ok (.iconst 1, 1) := by decide +kernel
theorem dX8_score_23 : decode cX8_score 23 = .ok (.invokevirtual 101, 3) := by decide +kernel
theorem dX8_score_26 : decode cX8_score 26 = .ok (.ifCond .ne 5, 3) := by decide +kernel
theorem dX8_score_29 : decode cX8_score 29 = .ok (.iconst 0, 1) := by decide +kernel
theorem dX8_score_30 : decode cX8_score 30 = .ok (.ireturn, 1) := by decide +kernel
theorem dX8_score_31 : decode cX8_score 31 = .ok (.aload_n 0, 1) := by decide +kernel
theorem dX8_score_32 : decode cX8_score 32 = .ok (.iload_n 1, 1) := by decide +kernel
theorem dX8_score_33 : decode cX8_score 33 = .ok (.invokestatic 164, 3) := by decide +kernel
theorem dX8_score_36 : decode cX8_score 36 = .ok (.invokevirtual 145, 3) := by decide +kernel
theorem dX8_score_39 : decode cX8_score 39 = .ok (.iload_n 2, 1) := by decide +kernel
theorem dX8_score_40 : decode cX8_score 40 = .ok (.ifCond .ne 10, 3) := by decide +kernel
theorem dX8_score_43 : decode cX8_score 43 = .ok (.aload_n 0, 1) := by decide +kernel
theorem dX8_score_44 : decode cX8_score 44 = .ok (.getfield 129, 3) := by decide +kernel
theorem dX8_score_47 : decode cX8_score 47 = .ok (.goto 7, 3) := by decide +kernel
theorem dX8_score_50 : decode cX8_score 50 = .ok (.aload_n 0, 1) := by decide +kernel
theorem dX8_score_51 : decode cX8_score 51 = .ok (.getfield 132, 3) := by decide +kernel
theorem dX8_score_54 : decode cX8_score 54 = .ok (.ireturn, 1) := by decide +kernel
theorem dX8_scoreAnew_0 : decode cX8_scoreAnew 0 = .ok (.aload_n 0, 1) := by decide +kernel
theorem dX8_scoreAnew_1 : decode cX8_scoreAnew 1 = .ok (.iload_n 1, 1) := by decide +kernel
theorem dX8_scoreAnew_2 : decode cX8_scoreAnew 2 = .ok (.iload_n 2, 1) := by decide +kernel
theorem dX8_scoreAnew_3 : decode cX8_scoreAnew 3 = .ok (.invokevirtual 184, 3) := by decide +kernel
theorem dX8_scoreAnew_6 : decode cX8_scoreAnew 6 = .ok (.ireturn, 1) := by decide +kernel
theorem dX8_winner_0 : decode cX8_winner 0 = .ok (.aload_n 0, 1) := by decide +kernel
theorem dX8_winner_1 : decode cX8_winner 1 = .ok (.aload_n 0, 1) := by decide +kernel
theorem dX8_winner_2 : decode cX8_winner 2 = .ok (.iload_n 1, 1) := by decide +kernel
theorem dX8_winner_3 : decode cX8_winner 3 = .ok (.invokevirtual 152, 3) := by decide +kernel
theorem dX8_winner_6 : decode cX8_winner 6 = .ok (.iconst 1, 1) := by decide +kernel
theorem dX8_winner_7 : decode cX8_winner 7 = .ok (.iconst 1, 1) := by decide +kernel
theorem dX8_winner_8 : decode cX8_winner 8 = .ok (.invokevirtual 101, 3) := by decide +kernel
theorem dX8_winner_11 : decode cX8_winner 11 = .ok (.ifCond .eq 11, 3) := by decide +kernel
theorem dX8_winner_14 : decode cX8_winner 14 = .ok (.aload_n 0, 1) := by decide +kernel
theorem dX8_winner_15 : decode cX8_winner 15 = .ok (.iload_n 1, 1) := by decide +kernel
theorem dX8_winner_16 : decode cX8_winner 16 = .ok (.invokevirtual 155, 3) := by decide +kernel
theorem dX8_winner_19 : decode cX8_winner 19 = .ok (.goto 4, 3) := by decide +kernel
theorem dX8_winner_22 : decode cX8_winner 22 = .ok (.iconst 0, 1) := by decide +kernel
theorem dX8_winner_23 : decode cX8_winner 23 = .ok (.ireturn, 1) := by decide +kernel
theorem dX8_phrases_0 : decode cX8_phrases 0 = .ok (.aload_n 0, 1) := by decide +kernel
theorem dX8_phrases_1 : decode cX8_phrases 1 = .ok (.aload_n 0, 1) := by decide +kernel
theorem dX8_phrases_2 : decode cX8_phrases 2 = .ok (.iload_n 1, 1) := by decide +kernel
theorem dX8_phrases_3 : decode cX8_phrases 3 = .ok (.invokevirtual 152, 3) := by decide +kernel
theorem dX8_phrases_6 : decode cX8_phrases 6 = .ok (.iconst 1, 1) := by decide +kernel
theorem dX8_phrases_7 : decode cX8_phrases 7 = .ok (.iconst 1, 1) := by decide +kernel
theorem dX8_phrases_8 : decode cX8_phrases 8 = .ok (.invokevirtual 101, 3) := by decide +kernel
theorem dX8_phrases_11 : decode cX8_phrases 11 = .ok (.ifCond .eq 15, 3) := by decide +kernel
theorem dX8_phrases_14 : decode cX8_phrases 14 = .ok (.aload_n 0, 1) := by decide +kernel
theorem dX8_phrases_15 : decode cX8_phrases 15 = .ok (.getfield 26, 3) := by decide +kernel
theorem dX8_phrases_18 : decode cX8_phrases 18 = .ok (.iload_n 1, 1) := by decide +kernel
theorem dX8_phrases_19 : decode cX8_phrases 19 = .ok (.invokestatic 164, 3) := by decide +kernel
theorem dX8_phrases_22 : decode cX8_phrases 22 = .ok (.iaload, 1) := by decide +kernel
theorem dX8_phrases_23 : decode cX8_phrases 23 = .ok (.goto 4, 3) := by decide +kernel
theorem dX8_phrases_26 : decode cX8_phrases 26 = .ok (.iconst 0, 1) := by decide +kernel
theorem dX8_phrases_27 : decode cX8_phrases 27 = .ok (.ireturn, 1) := by decide +kernel
theorem dX8_touches_0 : decode cX8_touches 0 = .ok (.aload_n 0, 1) := by decide +kernel
theorem dX8_touches_1 : decode cX8_touches 1 = .ok (.iload_n 1, 1) := by decide +kernel
theorem dX8_touches_2 : decode cX8_touches 2 = .ok (.invokevirtual 152, 3) := by decide +kernel
theorem dX8_touches_5 : decode cX8_touches 5 = .ok (.istore_n 3, 1) := by decide +kernel
theorem dX8_touches_6 : decode cX8_touches 6 = .ok (.aload_n 0, 1) := by decide +kernel
theorem dX8_touches_7 : decode cX8_touches 7 = .ok (.iload_n 3, 1) := by decide +kernel
theorem dX8_touches_8 : decode cX8_touches 8 = .ok (.ifCond .eq 34, 3) := by decide +kernel
theorem dX8_touches_11 : decode cX8_touches 11 = .ok (.iload_n 2, 1) := by decide +kernel
theorem dX8_touches_12 : decode cX8_touches 12 = .ok (.iconst 0, 1) := by decide +kernel
theorem dX8_touches_13 : decode cX8_touches 13 = .ok (.aload_n 0, 1) := by decide +kernel
theorem dX8_touches_14 : decode cX8_touches 14 = .ok (.getfield 26, 3) := by decide +kernel
theorem dX8_touches_17 : decode cX8_touches 17 = .ok (.iload_n 3, 1) := by decide +kernel
theorem dX8_touches_18 : decode cX8_touches 18 = .ok (.ifCond .eq 10, 3) := by decide +kernel
theorem dX8_touches_21 : decode cX8_touches 21 = .ok (.iload_n 1, 1) := by decide +kernel
theorem dX8_touches_22 : decode cX8_touches 22 = .ok (.invokestatic 164, 3) := by decide +kernel
theorem dX8_touches_25 : decode cX8_touches 25 = .ok (.goto 4, 3) := by decide +kernel
theorem dX8_touches_28 : decode cX8_touches 28 = .ok (.iconst 0, 1) := by decide +kernel
theorem dX8_touches_29 : decode cX8_touches 29 = .ok (.iaload, 1) := by decide +kernel
theorem dX8_touches_30 : decode cX8_touches 30 = .ok (.iconst 1, 1) := by decide +kernel
theorem dX8_touches_31 : decode cX8_touches 31 = .ok (.isub, 1) := by decide +kernel
theorem dX8_touches_32 : decode cX8_touches 32 = .ok (.invokestatic 85, 3) := by decide +kernel
theorem dX8_touches_35 : decode cX8_touches 35 = .ok (.ifCond .eq 7, 3) := by decide +kernel
theorem dX8_touches_38 : decode cX8_touches 38 = .ok (.iconst 1, 1) := by decide +kernel
theorem dX8_touches_39 : decode cX8_touches 39 = .ok (.goto 4, 3) := by decide +kernel
theorem dX8_touches_42 : decode cX8_touches 42 = .ok (.iconst 0, 1) := by decide +kernel
theorem dX8_touches_43 : decode cX8_touches 43 = .ok (.iconst 1, 1) := by decide +kernel
theorem dX8_touches_44 : decode cX8_touches 44 = .ok (.iconst 1, 1) := by decide +kernel
theorem dX8_touches_45 : decode cX8_touches 45 = .ok (.invokevirtual 101, 3) := by decide +kernel
theorem dX8_touches_48 : decode cX8_touches 48 = .ok (.ifCond .eq 15, 3) := by decide +kernel
theorem dX8_touches_51 : decode cX8_touches 51 = .ok (.aload_n 0, 1) := by decide +kernel
theorem dX8_touches_52 : decode cX8_touches 52 = .ok (.iload_n 1, 1) := by decide +kernel
theorem dX8_touches_53 : decode cX8_touches 53 = .ok (.invokestatic 164, 3) := by decide +kernel
theorem dX8_touches_56 : decode cX8_touches 56 = .ok (.iload_n 2, 1) := by decide +kernel
theorem dX8_touches_57 : decode cX8_touches 57 = .ok (.invokevirtual 138, 3) := by decide +kernel
theorem dX8_touches_60 : decode cX8_touches 60 = .ok (.goto 4, 3) := by decide +kernel
theorem dX8_touches_63 : decode cX8_touches 63 = .ok (.iconst 0, 1) := by decide +kernel
theorem dX8_touches_64 : decode cX8_touches 64 = .ok (.ireturn, 1) := by decide +kernel
theorem dX8_appeals_0 : decode cX8_appeals 0 = .ok (.aload_n 0, 1) := by decide +kernel
theorem dX8_appeals_1 : decode cX8_appeals 1 = .ok (.aload_n 0, 1) := by decide +kernel
theorem dX8_appeals_2 : decode cX8_appeals 2 = .ok (.iload_n 1, 1) := by decide +kernel
theorem dX8_appeals_3 : decode cX8_appeals 3 = .ok (.invokevirtual 152, 3) := by decide +kernel
theorem dX8_appeals_6 : decode cX8_appeals 6 = .ok (.ifCond .eq 14, 3) := by decide +kernel
theorem dX8_appeals_9 : decode cX8_appeals 9 = .ok (.iload_n 2, 1) := by decide +kernel
theorem dX8_appeals_10 : decode cX8_appeals 10 = .ok (.invokestatic 167, 3) := by decide +kernel
theorem dX8_appeals_13 : decode cX8_appeals 13 = .ok (.ifCond .eq 7, 3) := by decide +kernel
theorem dX8_appeals_16 : decode cX8_appeals 16 = .ok (.iconst 1, 1) := by decide +kernel
theorem dX8_appeals_17 : decode cX8_appeals 17 = .ok (.goto 4, 3) := by decide +kernel
theorem dX8_appeals_20 : decode cX8_appeals 20 = .ok (.iconst 0, 1) := by decide +kernel
theorem dX8_appeals_21 : decode cX8_appeals 21 = .ok (.iconst 1, 1) := by decide +kernel
theorem dX8_appeals_22 : decode cX8_appeals 22 = .ok (.iconst 1, 1) := by decide +kernel
theorem dX8_appeals_23 : decode cX8_appeals 23 = .ok (.invokevirtual 101, 3) := by decide +kernel
theorem dX8_appeals_26 : decode cX8_appeals 26 = .ok (.ifCond .eq 21, 3) := by decide +kernel
theorem dX8_appeals_29 : decode cX8_appeals 29 = .ok (.iconst 2, 1) := by decide +kernel
theorem dX8_appeals_30 : decode cX8_appeals 30 = .ok (.aload_n 0, 1) := by decide +kernel
theorem dX8_appeals_31 : decode cX8_appeals 31 = .ok (.getfield 29, 3) := by decide +kernel
theorem dX8_appeals_34 : decode cX8_appeals 34 = .ok (.iconst 2, 1) := by decide +kernel
theorem dX8_appeals_35 : decode cX8_appeals 35 = .ok (.iload_n 1, 1) := by decide +kernel
theorem dX8_appeals_36 : decode cX8_appeals 36 = .ok (.invokestatic 164, 3) := by decide +kernel
theorem dX8_appeals_39 : decode cX8_appeals 39 = .ok (.imul, 1) := by decide +kernel
theorem dX8_appeals_40 : decode cX8_appeals 40 = .ok (.iload_n 2, 1) := by decide +kernel
theorem dX8_appeals_41 : decode cX8_appeals 41 = .ok (.iadd, 1) := by decide +kernel
theorem dX8_appeals_42 : decode cX8_appeals 42 = .ok (.iaload, 1) := by decide +kernel
theorem dX8_appeals_43 : decode cX8_appeals 43 = .ok (.isub, 1) := by decide +kernel
theorem dX8_appeals_44 : decode cX8_appeals 44 = .ok (.goto 4, 3) := by decide +kernel
theorem dX8_appeals_47 : decode cX8_appeals 47 = .ok (.iconst 0, 1) := by decide +kernel
theorem dX8_appeals_48 : decode cX8_appeals 48 = .ok (.ireturn, 1) := by decide +kernel
theorem dX8_drawPools_0 : decode cX8_drawPools 0 = .ok (.iload_n 1, 1) := by decide +kernel
theorem dX8_drawPools_1 : decode cX8_drawPools 1 = .ok (.iconst 1, 1) := by decide +kernel
theorem dX8_drawPools_2 : decode cX8_drawPools 2 = .ok (.iconst 4, 1) := by decide +kernel
theorem dX8_drawPools_3 : decode cX8_drawPools 3 = .ok (.invokestatic 85, 3) := by decide +kernel
theorem dX8_drawPools_6 : decode cX8_drawPools 6 = .ok (.istore_n 2, 1) := by decide +kernel
theorem dX8_drawPools_7 : decode cX8_drawPools 7 = .ok (.aload_n 0, 1) := by decide +kernel
theorem dX8_drawPools_8 : decode cX8_drawPools 8 = .ok (.iload_n 2, 1) := by decide +kernel
theorem dX8_drawPools_9 : decode cX8_drawPools 9 = .ok (.iload_n 2, 1) := by decide +kernel
theorem dX8_drawPools_10 : decode cX8_drawPools 10 = .ok (.ifCond .eq 24, 3) := by decide +kernel
theorem dX8_drawPools_13 : decode cX8_drawPools 13 = .ok (.aload_n 0, 1) := by decide +kernel
theorem dX8_drawPools_14 : decode cX8_drawPools 14 = .ok (.getfield 98, 3) := by decide +kernel
theorem dX8_drawPools_17 : decode cX8_drawPools 17 = .ok (.ifCond .ne 17, 3) := by decide +kernel
theorem dX8_drawPools_20 : decode cX8_drawPools 20 = .ok (.aload_n 0, 1) := by decide +kernel
theorem dX8_drawPools_21 : decode cX8_drawPools 21 = .ok (.getfield 82, 3) := by decide +kernel
theorem dX8_drawPools_24 : decode cX8_drawPools 24 = .ok (.iconst 2, 1) := by decide +kernel
theorem dX8_drawPools_25 : decode cX8_drawPools 25 = .ok (.iload_n 1, 1) := by decide +kernel
theorem dX8_drawPools_26 : decode cX8_drawPools 26 = .ok (.imul, 1) := by decide +kernel
theorem dX8_drawPools_27 : decode cX8_drawPools 27 = .ok (.if_icmp .lt 7, 3) := by decide +kernel
theorem dX8_drawPools_30 : decode cX8_drawPools 30 = .ok (.iconst 1, 1) := by decide +kernel
theorem dX8_drawPools_31 : decode cX8_drawPools 31 = .ok (.goto 4, 3) := by decide +kernel
theorem dX8_drawPools_34 : decode cX8_drawPools 34 = .ok (.iconst 0, 1) := by decide +kernel
theorem dX8_drawPools_35 : decode cX8_drawPools 35 = .ok (.iconst 1, 1) := by decide +kernel
theorem dX8_drawPools_36 : decode cX8_drawPools 36 = .ok (.invokevirtual 101, 3) := by decide +kernel
theorem dX8_drawPools_39 : decode cX8_drawPools 39 = .ok (.ifCond .ne 5, 3) := by decide +kernel
theorem dX8_drawPools_42 : decode cX8_drawPools 42 = .ok (.iconst 0, 1) := by decide +kernel
theorem dX8_drawPools_43 : decode cX8_drawPools 43 = .ok (.ireturn, 1) := by decide +kernel
theorem dX8_drawPools_44 : decode cX8_drawPools 44 = .ok (.aload_n 0, 1) := by decide +kernel
theorem dX8_drawPools_45 : decode cX8_drawPools 45 = .ok (.iload_n 1, 1) := by decide +kernel
theorem dX8_drawPools_46 : decode cX8_drawPools 46 = .ok (.putfield 98, 3) := by decide +kernel
theorem dX8_drawPools_49 : decode cX8_drawPools 49 = .ok (.iconst 0, 1) := by decide +kernel
theorem dX8_drawPools_50 : decode cX8_drawPools 50 = .ok (.istore_n 3, 1) := by decide +kernel
theorem dX8_drawPools_51 : decode cX8_drawPools 51 = .ok (.iload_n 3, 1) := by decide +kernel
theorem dX8_drawPools_52 : decode cX8_drawPools 52 = .ok (.iload_n 1, 1) := by decide +kernel
theorem dX8_drawPools_53 : decode cX8_drawPools 53 = .ok (.if_icmp .ge 86, 3) := by decide +kernel
theorem dX8_drawPools_56 : decode cX8_drawPools 56 = .ok (.iload_n 3, 1) := by decide +kernel
theorem dX8_drawPools_57 : decode cX8_drawPools 57 = .ok (.istore 4, 2) := by decide +kernel
theorem dX8_drawPools_59 : decode cX8_drawPools 59 = .ok (.iload 4, 2) := by decide +kernel
theorem dX8_drawPools_61 : decode cX8_drawPools 61 = .ok (.aload_n 0, 1) := by decide +kernel
theorem dX8_drawPools_62 : decode cX8_drawPools 62 = .ok (.getfield 82, 3) := by decide +kernel
theorem dX8_drawPools_65 : decode cX8_drawPools 65 = .ok (.if_icmp .ge 68, 3) := by decide +kernel
theorem dX8_drawPools_68 : decode cX8_drawPools 68 = .ok (.iload 4, 2) := by decide +kernel
theorem dX8_drawPools_70 : decode cX8_drawPools 70 = .ok (.iload_n 1, 1) := by decide +kernel
theorem dX8_drawPools_71 : decode cX8_drawPools 71 = .ok (.iadd, 1) := by decide +kernel
theorem dX8_drawPools_72 : decode cX8_drawPools 72 = .ok (.istore 5, 2) := by decide +kernel
theorem dX8_drawPools_74 : decode cX8_drawPools 74 = .ok (.iload 5, 2) := by decide +kernel
theorem dX8_drawPools_76 : decode cX8_drawPools 76 = .ok (.aload_n 0, 1) := by decide +kernel
theorem dX8_drawPools_77 : decode cX8_drawPools 77 = .ok (.getfield 82, 3) := by decide +kernel
theorem dX8_drawPools_80 : decode cX8_drawPools 80 = .ok (.if_icmp .ge 44, 3) := by decide +kernel
theorem dX8_drawPools_83 : decode cX8_drawPools 83 = .ok (.aload_n 0, 1) := by decide +kernel
theorem dX8_drawPools_84 : decode cX8_drawPools 84 = .ok (.getfield 20, 3) := by decide +kernel
theorem dX8_drawPools_87 : decode cX8_drawPools 87 = .ok (.aload_n 0, 1) := by decide +kernel
theorem dX8_drawPools_88 : decode cX8_drawPools 88 = .ok (.getfield 92, 3) := by decide +kernel
theorem dX8_drawPools_91 : decode cX8_drawPools 91 = .ok (.iload 4, 2) := by decide +kernel
theorem dX8_drawPools_93 : decode cX8_drawPools 93 = .ok (.iastore, 1) := by decide +kernel
theorem dX8_drawPools_94 : decode cX8_drawPools 94 = .ok (.aload_n 0, 1) := by decide +kernel
theorem dX8_drawPools_95 : decode cX8_drawPools 95 = .ok (.getfield 23, 3) := by decide +kernel
theorem dX8_drawPools_98 : decode cX8_drawPools 98 = .ok (.aload_n 0, 1) := by decide +kernel
theorem dX8_drawPools_99 : decode cX8_drawPools 99 = .ok (.getfield 92, 3) := by decide +kernel
theorem dX8_drawPools_102 : decode cX8_drawPools 102 = .ok (.iload 5, 2) := by decide +kernel
theorem dX8_drawPools_104 : decode cX8_drawPools 104 = .ok (.iastore, 1) := by decide +kernel
theorem dX8_drawPools_105 : decode cX8_drawPools 105 = .ok (.aload_n 0, 1) := by decide +kernel
theorem dX8_drawPools_106 : decode cX8_drawPools 106 = .ok (.dup, 1) := by decide +kernel
theorem dX8_drawPools_107 : decode cX8_drawPools 107 = .ok (.getfield 92, 3) := by decide +kernel
theorem dX8_drawPools_110 : decode cX8_drawPools 110 = .ok (.iconst 1, 1) := by decide +kernel
theorem dX8_drawPools_111 : decode cX8_drawPools 111 = .ok (.iadd, 1) := by decide +kernel
theorem dX8_drawPools_112 : decode cX8_drawPools 112 = .ok (.putfield 92, 3) := by decide +kernel
theorem dX8_drawPools_115 : decode cX8_drawPools 115 = .ok (.iload 5, 2) := by decide +kernel
theorem dX8_drawPools_117 : decode cX8_drawPools 117 = .ok (.iload_n 1, 1) := by decide +kernel
theorem dX8_drawPools_118 : decode cX8_drawPools 118 = .ok (.iadd, 1) := by decide +kernel
theorem dX8_drawPools_119 : decode cX8_drawPools 119 = .ok (.istore 5, 2) := by decide +kernel
theorem dX8_drawPools_121 : decode cX8_drawPools 121 = .ok (.goto (-47), 3) := by decide +kernel
theorem dX8_drawPools_124 : decode cX8_drawPools 124 = .ok (.iload 4, 2) := by decide +kernel
theorem dX8_drawPools_126 : decode cX8_drawPools 126 = .ok (.iload_n 1, 1) := by decide +kernel
theorem dX8_drawPools_127 : decode cX8_drawPools 127 = .ok (.iadd, 1) := by decide +kernel
theorem dX8_drawPools_128 : decode cX8_drawPools 128 = .ok (.istore 4, 2) := by decide +kernel
theorem dX8_drawPools_130 : decode cX8_drawPools 130 = .ok (.goto (-71), 3) := by decide +kernel
theorem dX8_drawPools_133 : decode cX8_drawPools 133 = .ok (.iinc 3 1, 3) := by decide +kernel
theorem dX8_drawPools_136 : decode cX8_drawPools 136 = .ok (.goto (-85), 3) := by decide +kernel
theorem dX8_drawPools_139 : decode cX8_drawPools 139 = .ok (.aload_n 0, 1) := by decide +kernel
theorem dX8_drawPools_140 : decode cX8_drawPools 140 = .ok (.getfield 92, 3) := by decide +kernel
theorem dX8_drawPools_143 : decode cX8_drawPools 143 = .ok (.ireturn, 1) := by decide +kernel
theorem dX8_poolBouts_0 : decode cX8_poolBouts 0 = .ok (.aload_n 0, 1) := by decide +kernel
theorem dX8_poolBouts_1 : decode cX8_poolBouts 1 = .ok (.iconst 0, 1) := by decide +kernel
theorem dX8_poolBouts_2 : decode cX8_poolBouts 2 = .ok (.putfield 79, 3) := by decide +kernel
theorem dX8_poolBouts_5 : decode cX8_poolBouts 5 = .ok (.aload_n 0, 1) := by decide +kernel
theorem dX8_poolBouts_6 : decode cX8_poolBouts 6 = .ok (.getfield 92, 3) := by decide +kernel
theorem dX8_poolBouts_9 : decode cX8_poolBouts 9 = .ok (.ireturn, 1) := by decide +kernel
theorem dX8_sums_0 : decode cX8_sums 0 = .ok (.iconst 0, 1) := by decide +kernel
theorem dX8_sums_1 : decode cX8_sums 1 = .ok (.istore_n 1, 1) := by decide +kernel
theorem dX8_sums_2 : decode cX8_sums 2 = .ok (.iload_n 1, 1) := by decide +kernel
theorem dX8_sums_3 : decode cX8_sums 3 = .ok (.bipush 12, 2) := by decide +kernel
theorem dX8_sums_5 : decode cX8_sums 5 = .ok (.if_icmp .ge 37, 3) := by decide +kernel
theorem dX8_sums_8 : decode cX8_sums 8 = .ok (.aload_n 0, 1) := by decide +kernel
theorem dX8_sums_9 : decode cX8_sums 9 = .ok (.getfield 63, 3) := by decide +kernel
theorem dX8_sums_12 : decode cX8_sums 12 = .ok (.iload_n 1, 1) := by decide +kernel
theorem dX8_sums_13 : decode cX8_sums 13 = .ok (.iconst 0, 1) := by decide +kernel
theorem dX8_sums_14 : decode cX8_sums 14 = .ok (.iastore, 1) := by decide +kernel
theorem dX8_sums_15 : decode cX8_sums 15 = .ok (.aload_n 0, 1) := by decide +kernel
theorem dX8_sums_16 : decode cX8_sums 16 = .ok (.getfield 66, 3) := by decide +kernel
theorem dX8_sums_19 : decode cX8_sums 19 = .ok (.iload_n 1, 1) := by decide +kernel
theorem dX8_sums_20 : decode cX8_sums 20 = .ok (.iconst 0, 1) := by decide +kernel
theorem dX8_sums_21 : decode cX8_sums 21 = .ok (.iastore, 1) := by decide +kernel
theorem dX8_sums_22 : decode cX8_sums 22 = .ok (.aload_n 0, 1) := by decide +kernel
theorem dX8_sums_23 : decode cX8_sums 23 = .ok (.getfield 69, 3) := by decide +kernel
theorem dX8_sums_26 : decode cX8_sums 26 = .ok (.iload_n 1, 1) := by decide +kernel
theorem dX8_sums_27 : decode cX8_sums 27 = .ok (.iconst 0, 1) := by decide +kernel
theorem dX8_sums_28 : decode cX8_sums 28 = .ok (.iastore, 1) := by decide +kernel
theorem dX8_sums_29 : decode cX8_sums 29 = .ok (.aload_n 0, 1) := by decide +kernel
theorem dX8_sums_30 : decode cX8_sums 30 = .ok (.getfield 72, 3) := by decide +kernel
theorem dX8_sums_33 : decode cX8_sums 33 = .ok (.iload_n 1, 1) := by decide +kernel
theorem dX8_sums_34 : decode cX8_sums 34 = .ok (.iconst 0, 1) := by decide +kernel
theorem dX8_sums_35 : decode cX8_sums 35 = .ok (.iastore, 1) := by decide +kernel
theorem dX8_sums_36 : decode cX8_sums 36 = .ok (.iinc 1 1, 3) := by decide +kernel
theorem dX8_sums_39 : decode cX8_sums 39 = .ok (.goto (-37), 3) := by decide +kernel
theorem dX8_sums_42 : decode cX8_sums 42 = .ok (.iconst 0, 1) := by decide +kernel
theorem dX8_sums_43 : decode cX8_sums 43 = .ok (.istore_n 1, 1) := by decide +kernel
theorem dX8_sums_44 : decode cX8_sums 44 = .ok (.iload_n 1, 1) := by decide +kernel
theorem dX8_sums_45 : decode cX8_sums 45 = .ok (.aload_n 0, 1) := by decide +kernel
theorem dX8_sums_46 : decode cX8_sums 46 = .ok (.getfield 92, 3) := by decide +kernel
theorem dX8_sums_49 : decode cX8_sums 49 = .ok (.if_icmp .ge 83, 3) := by decide +kernel
theorem dX8_sums_52 : decode cX8_sums 52 = .ok (.aload_n 0, 1) := by decide +kernel
theorem dX8_sums_53 : decode cX8_sums 53 = .ok (.iload_n 1, 1) := by decide +kernel
theorem dX8_sums_54 : decode cX8_sums 54 = .ok (.invokevirtual 145, 3) := by decide +kernel
theorem dX8_sums_57 : decode cX8_sums 57 = .ok (.aload_n 0, 1) := by decide +kernel
theorem dX8_sums_58 : decode cX8_sums 58 = .ok (.getfield 135, 3) := by decide +kernel
theorem dX8_sums_61 : decode cX8_sums 61 = .ok (.iconst (-1), 1) := by decide +kernel
theorem dX8_sums_62 : decode cX8_sums 62 = .ok (.if_icmp .eq 64, 3) := by decide +kernel
theorem dX8_sums_65 : decode cX8_sums 65 = .ok (.aload_n 0, 1) := by decide +kernel
theorem dX8_sums_66 : decode cX8_sums 66 = .ok (.aload_n 0, 1) := by decide +kernel
theorem dX8_sums_67 : decode cX8_sums 67 = .ok (.getfield 20, 3) := by decide +kernel
theorem dX8_sums_70 : decode cX8_sums 70 = .ok (.iload_n 1, 1) := by decide +kernel
theorem dX8_sums_71 : decode cX8_sums 71 = .ok (.iaload, 1) := by decide +kernel
theorem dX8_sums_72 : decode cX8_sums 72 = .ok (.aload_n 0, 1) := by decide +kernel
theorem dX8_sums_73 : decode cX8_sums 73 = .ok (.getfield 129, 3) := by decide +kernel
theorem dX8_sums_76 : decode cX8_sums 76 = .ok (.aload_n 0, 1) := by decide +kernel
theorem dX8_sums_77 : decode cX8_sums 77 = .ok (.getfield 132, 3) := by decide +kernel
theorem dX8_sums_80 : decode cX8_sums 80 = .ok (.aload_n 0, 1) := by decide +kernel
theorem dX8_sums_81 : decode cX8_sums 81 = .ok (.getfield 135, 3) := by decide +kernel
theorem dX8_sums_84 : decode cX8_sums 84 = .ok (.ifCond .ne 7, 3) := by decide +kernel
theorem dX8_sums_87 : decode cX8_sums 87 = .ok (.iconst 1, 1) := by decide +kernel
theorem dX8_sums_88 : decode cX8_sums 88 = .ok (.goto 4, 3) := by decide +kernel
theorem dX8_sums_91 : decode cX8_sums 91 = .ok (.iconst 0, 1) := by decide +kernel
theorem dX8_sums_92 : decode cX8_sums 92 = .ok (.invokevirtual 187, 3) := by decide +kernel
theorem dX8_sums_95 : decode cX8_sums 95 = .ok (.aload_n 0, 1) := by decide +kernel
theorem dX8_sums_96 : decode cX8_sums 96 = .ok (.aload_n 0, 1) := by decide +kernel
theorem dX8_sums_97 : decode cX8_sums 97 = .ok (.getfield 23, 3) := by decide +kernel
theorem dX8_sums_100 : decode cX8_sums 100 = .ok (.iload_n 1, 1) := by decide +kernel
theorem dX8_sums_101 : decode cX8_sums 101 = .ok (.iaload, 1) := by decide +kernel
theorem dX8_sums_102 : decode cX8_sums 102 = .ok (.aload_n 0, 1) := by decide +kernel
theorem dX8_sums_103 : decode cX8_sums 103 = .ok (.getfield 132, 3) := by decide +kernel
theorem dX8_sums_106 : decode cX8_sums 106 = .ok (.aload_n 0, 1) := by decide +kernel
theorem dX8_sums_107 : decode cX8_sums 107 = .ok (.getfield 129, 3) := by decide +kernel
theorem dX8_sums_110 : decode cX8_sums 110 = .ok (.aload_n 0, 1) := by decide +kernel
theorem dX8_sums_111 : decode cX8_sums 111 = .ok (.getfield 135, 3) := by decide +kernel
theorem dX8_sums_114 : decode cX8_sums 114 = .ok (.iconst 1, 1) := by decide +kernel
theorem dX8_sums_115 : decode cX8_sums 115 = .ok (.if_icmp .ne 7, 3) := by decide +kernel
theorem dX8_sums_118 : decode cX8_sums 118 = .ok (.iconst 1, 1) := by decide +kernel
theorem dX8_sums_119 : decode cX8_sums 119 = .ok (.goto 4, 3) := by decide +kernel
theorem dX8_sums_122 : decode cX8_sums 122 = .ok (.iconst 0, 1) := by decide +kernel
theorem dX8_sums_123 : decode cX8_sums 123 = .ok (.invokevirtual 187, 3) := by decide +kernel
theorem dX8_sums_126 : decode cX8_sums 126 = .ok (.iinc 1 1, 3) := by decide +kernel
theorem dX8_sums_129 : decode cX8_sums 129 = .ok (.goto (-85), 3) := by decide +kernel
theorem dX8_sums_132 : decode cX8_sums 132 = .ok (.return_, 1) := by decide +kernel
theorem dX8_adds_0 : decode cX8_adds 0 = .ok (.aload_n 0, 1) := by decide +kernel
theorem dX8_adds_1 : decode cX8_adds 1 = .ok (.getfield 63, 3) := by decide +kernel
theorem dX8_adds_4 : decode cX8_adds 4 = .ok (.iload_n 1, 1) := by decide +kernel
theorem dX8_adds_5 : decode cX8_adds 5 = .ok (.dup2, 1) := by decide +kernel
theorem dX8_adds_6 : decode cX8_adds 6 = .ok (.iaload, 1) := by decide +kernel
theorem dX8_adds_7 : decode cX8_adds 7 = .ok (.iconst 1, 1) := by decide +kernel
theorem dX8_adds_8 : decode cX8_adds 8 = .ok (.iadd, 1) := by decide +kernel
theorem dX8_adds_9 : decode cX8_adds 9 = .ok (.iastore, 1) := by decide +kernel
theorem dX8_adds_10 : decode cX8_adds 10 = .ok (.aload_n 0, 1) := by decide +kernel
theorem dX8_adds_11 : decode cX8_adds 11 = .ok (.getfield 66, 3) := by decide +kernel
theorem dX8_adds_14 : decode cX8_adds 14 = .ok (.iload_n 1, 1) := by decide +kernel
theorem dX8_adds_15 : decode cX8_adds 15 = .ok (.dup2, 1) := by decide +kernel
theorem dX8_adds_16 : decode cX8_adds 16 = .ok (.iaload, 1) := by decide +kernel
theorem dX8_adds_17 : decode cX8_adds 17 = .ok (.iload 4, 2) := by decide +kernel
theorem dX8_adds_19 : decode cX8_adds 19 = .ok (.ifCond .eq 7, 3) := by decide +kernel
theorem dX8_adds_22 : decode cX8_adds 22 = .ok (.iconst 1, 1) := by decide +kernel
theorem dX8_adds_23 : decode cX8_adds 23 = .ok (.goto 4, 3) := by decide +kernel
theorem dX8_adds_26 : decode cX8_adds 26 = .ok (.iconst 0, 1) := by decide +kernel
theorem dX8_adds_27 : decode cX8_adds 27 = .ok (.iadd, 1) := by decide +kernel
theorem dX8_adds_28 : decode cX8_adds 28 = .ok (.iastore, 1) := by decide +kernel
theorem dX8_adds_29 : decode cX8_adds 29 = .ok (.aload_n 0, 1) := by decide +kernel
theorem dX8_adds_30 : decode cX8_adds 30 = .ok (.getfield 69, 3) := by decide +kernel
theorem dX8_adds_33 : decode cX8_adds 33 = .ok (.iload_n 1, 1) := by decide +kernel
theorem dX8_adds_34 : decode cX8_adds 34 = .ok (.dup2, 1) := by decide +kernel
theorem dX8_adds_35 : decode cX8_adds 35 = .ok (.iaload, 1) := by decide +kernel
theorem dX8_adds_36 : decode cX8_adds 36 = .ok (.iload_n 2, 1) := by decide +kernel
theorem dX8_adds_37 : decode cX8_adds 37 = .ok (.iadd, 1) := by decide +kernel
theorem dX8_adds_38 : decode cX8_adds 38 = .ok (.iastore, 1) := by decide +kernel
theorem dX8_adds_39 : decode cX8_adds 39 = .ok (.aload_n 0, 1) := by decide +kernel
theorem dX8_adds_40 : decode cX8_adds 40 = .ok (.getfield 72, 3) := by decide +kernel
theorem dX8_adds_43 : decode cX8_adds 43 = .ok (.iload_n 1, 1) := by decide +kernel
theorem dX8_adds_44 : decode cX8_adds 44 = .ok (.dup2, 1) := by decide +kernel
theorem dX8_adds_45 : decode cX8_adds 45 = .ok (.iaload, 1) := by decide +kernel
theorem dX8_adds_46 : decode cX8_adds 46 = .ok (.iload_n 3, 1) := by decide +kernel
theorem dX8_adds_47 : decode cX8_adds 47 = .ok (.iadd, 1) := by decide +kernel
theorem dX8_adds_48 : decode cX8_adds 48 = .ok (.iastore, 1) := by decide +kernel
theorem dX8_adds_49 : decode cX8_adds 49 = .ok (.return_, 1) := by decide +kernel
theorem dX8_won_0 : decode cX8_won 0 = .ok (.aload_n 0, 1) := by decide +kernel
theorem dX8_won_1 : decode cX8_won 1 = .ok (.aload_n 0, 1) := by decide +kernel
theorem dX8_won_2 : decode cX8_won 2 = .ok (.iload_n 1, 1) := by decide +kernel
theorem dX8_won_3 : decode cX8_won 3 = .ok (.invokevirtual 105, 3) := by decide +kernel
theorem dX8_won_6 : decode cX8_won 6 = .ok (.iconst 1, 1) := by decide +kernel
theorem dX8_won_7 : decode cX8_won 7 = .ok (.iconst 1, 1) := by decide +kernel
theorem dX8_won_8 : decode cX8_won 8 = .ok (.invokevirtual 101, 3) := by decide +kernel
theorem dX8_won_11 : decode cX8_won 11 = .ok (.ifCond .ne 5, 3) := by decide +kernel
theorem dX8_won_14 : decode cX8_won 14 = .ok (.iconst 0, 1) := by decide +kernel
theorem dX8_won_15 : decode cX8_won 15 = .ok (.ireturn, 1) := by decide +kernel
theorem dX8_won_16 : decode cX8_won 16 = .ok (.aload_n 0, 1) := by decide +kernel
theorem dX8_won_17 : decode cX8_won 17 = .ok (.invokevirtual 191, 3) := by decide +kernel
theorem dX8_won_20 : decode cX8_won 20 = .ok (.aload_n 0, 1) := by decide +kernel
theorem dX8_won_21 : decode cX8_won 21 = .ok (.getfield 66, 3) := by decide +kernel
theorem dX8_won_24 : decode cX8_won 24 = .ok (.iload_n 1, 1) := by decide +kernel
theorem dX8_won_25 : decode cX8_won 25 = .ok (.iaload, 1) := by decide +kernel
theorem dX8_won_26 : decode cX8_won 26 = .ok (.ireturn, 1) := by decide +kernel
theorem dX8_index_0 : decode cX8_index 0 = .ok (.aload_n 0, 1) := by decide +kernel
theorem dX8_index_1 : decode cX8_index 1 = .ok (.aload_n 0, 1) := by decide +kernel
theorem dX8_index_2 : decode cX8_index 2 = .ok (.iload_n 1, 1) := by decide +kernel
theorem dX8_index_3 : decode cX8_index 3 = .ok (.invokevirtual 105, 3) := by decide +kernel
theorem dX8_index_6 : decode cX8_index 6 = .ok (.iconst 1, 1) := by decide +kernel
theorem dX8_index_7 : decode cX8_index 7 = .ok (.iconst 1, 1) := by decide +kernel
theorem dX8_index_8 : decode cX8_index 8 = .ok (.invokevirtual 101, 3) := by decide +kernel
theorem dX8_index_11 : decode cX8_index 11 = .ok (.ifCond .ne 5, 3) := by decide +kernel
theorem dX8_index_14 : decode cX8_index 14 = .ok (.iconst 0, 1) := by decide +kernel
theorem dX8_index_15 : decode cX8_index 15 = .ok (.ireturn, 1) := by decide +kernel
theorem dX8_index_16 : decode cX8_index 16 = .ok (.aload_n 0, 1) := by decide +kernel
theorem dX8_index_17 : decode cX8_index 17 = .ok (.invokevirtual 191, 3) := by decide +kernel
theorem dX8_index_20 : decode cX8_index 20 = .ok (.aload_n 0, 1) := by decide +kernel
theorem dX8_index_21 : decode cX8_index 21 = .ok (.getfield 69, 3) := by decide +kernel
theorem dX8_index_24 : decode cX8_index 24 = .ok (.iload_n 1, 1) := by decide +kernel
theorem dX8_index_25 : decode cX8_index 25 = .ok (.iaload, 1) := by decide +kernel
theorem dX8_index_26 : decode cX8_index 26 = .ok (.aload_n 0, 1) := by decide +kernel
theorem dX8_index_27 : decode cX8_index 27 = .ok (.getfield 72, 3) := by decide +kernel
theorem dX8_index_30 : decode cX8_index 30 = .ok (.iload_n 1, 1) := by decide +kernel
theorem dX8_index_31 : decode cX8_index 31 = .ok (.iaload, 1) := by decide +kernel
theorem dX8_index_32 : decode cX8_index 32 = .ok (.isub, 1) := by decide +kernel
theorem dX8_index_33 : decode cX8_index 33 = .ok (.ireturn, 1) := by decide +kernel
theorem dX8_isAhead_0 : decode cX8_isAhead 0 = .ok (.aload_n 0, 1) := by decide +kernel
theorem dX8_isAhead_1 : decode cX8_isAhead 1 = .ok (.getfield 66, 3) := by decide +kernel
theorem dX8_isAhead_4 : decode cX8_isAhead 4 = .ok (.iload_n 1, 1) := by decide +kernel
theorem dX8_isAhead_5 : decode cX8_isAhead 5 = .ok (.iaload, 1) := by decide +kernel
theorem dX8_isAhead_6 : decode cX8_isAhead 6 = .ok (.aload_n 0, 1) := by decide +kernel
theorem dX8_isAhead_7 : decode cX8_isAhead 7 = .ok (.getfield 63, 3) := by decide +kernel
theorem dX8_isAhead_10 : decode cX8_isAhead 10 = .ok (.iload_n 2, 1) := by decide +kernel
theorem dX8_isAhead_11 : decode cX8_isAhead 11 = .ok (.iaload, 1) := by decide +kernel
theorem dX8_isAhead_12 : decode cX8_isAhead 12 = .ok (.ifCond .ne 7, 3) := by decide +kernel
theorem dX8_isAhead_15 : decode cX8_isAhead 15 = .ok (.iconst 1, 1) := by decide +kernel
theorem dX8_isAhead_16 : decode cX8_isAhead 16 = .ok (.goto 9, 3) := by decide +kernel
theorem dX8_isAhead_19 : decode cX8_isAhead 19 = .ok (.aload_n 0, 1) := by decide +kernel
theorem dX8_isAhead_20 : decode cX8_isAhead 20 = .ok (.getfield 63, 3) := by decide +kernel
theorem dX8_isAhead_23 : decode cX8_isAhead 23 = .ok (.iload_n 2, 1) := by decide +kernel
theorem dX8_isAhead_24 : decode cX8_isAhead 24 = .ok (.iaload, 1) := by decide +kernel
theorem dX8_isAhead_25 : decode cX8_isAhead 25 = .ok (.imul, 1) := by decide +kernel
theorem dX8_isAhead_26 : decode cX8_isAhead 26 = .ok (.aload_n 0, 1) := by decide +kernel
theorem dX8_isAhead_27 : decode cX8_isAhead 27 = .ok (.getfield 66, 3) := by decide +kernel
theorem dX8_isAhead_30 : decode cX8_isAhead 30 = .ok (.iload_n 2, 1) := by decide +kernel
theorem dX8_isAhead_31 : decode cX8_isAhead 31 = .ok (.iaload, 1) := by decide +kernel
theorem dX8_isAhead_32 : decode cX8_isAhead 32 = .ok (.aload_n 0, 1) := by decide +kernel
theorem dX8_isAhead_33 : decode cX8_isAhead 33 = .ok (.getfield 63, 3) := by decide +kernel
theorem dX8_isAhead_36 : decode cX8_isAhead 36 = .ok (.iload_n 1, 1) := by decide +kernel
theorem dX8_isAhead_37 : decode cX8_isAhead 37 = .ok (.iaload, 1) := by decide +kernel
theorem dX8_isAhead_38 : decode cX8_isAhead 38 = .ok (.ifCond .ne 7, 3) := by decide +kernel
theorem dX8_isAhead_41 : decode cX8_isAhead 41 = .ok (.iconst 1, 1) := by decide +kernel
theorem dX8_isAhead_42 : decode cX8_isAhead 42 = .ok (.goto 9, 3) := by decide +kernel
theorem dX8_isAhead_45 : decode cX8_isAhead 45 = .ok (.aload_n 0, 1) := by decide +kernel
theorem dX8_isAhead_46 : decode cX8_isAhead 46 = .ok (.getfield 63, 3) := by decide +kernel
theorem dX8_isAhead_49 : decode cX8_isAhead 49 = .ok (.iload_n 1, 1) := by decide +kernel
theorem dX8_isAhead_50 : decode cX8_isAhead 50 = .ok (.iaload, 1) := by decide +kernel
theorem dX8_isAhead_51 : decode cX8_isAhead 51 = .ok (.imul, 1) := by decide +kernel
theorem dX8_isAhead_52 : decode cX8_isAhead 52 = .ok (.isub, 1) := by decide +kernel
theorem dX8_isAhead_53 : decode cX8_isAhead 53 = .ok (.istore_n 3, 1) := by decide +kernel
theorem dX8_isAhead_54 : decode cX8_isAhead 54 = .ok (.iload_n 3, 1) := by decide +kernel
theorem dX8_isAhead_55 : decode cX8_isAhead 55 = .ok (.ifCond .ne 33, 3) := by decide +kernel
theorem dX8_isAhead_58 : decode cX8_isAhead 58 = .ok (.aload_n 0, 1) := by decide +kernel
theorem dX8_isAhead_59 : decode cX8_isAhead 59 = .ok (.getfield 69, 3) := by decide +kernel
theorem dX8_isAhead_62 : decode cX8_isAhead 62 = .ok (.iload_n 1, 1) := by decide +kernel
theorem dX8_isAhead_63 : decode cX8_isAhead 63 = .ok (.iaload, 1) := by decide +kernel
theorem dX8_isAhead_64 : decode cX8_isAhead 64 = .ok (.aload_n 0, 1) := by decide +kernel
theorem dX8_isAhead_65 : decode cX8_isAhead 65 = .ok (.getfield 72, 3) := by decide +kernel
theorem dX8_isAhead_68 : decode cX8_isAhead 68 = .ok (.iload_n 1, 1) := by decide +kernel
theorem dX8_isAhead_69 : decode cX8_isAhead 69 = .ok (.iaload, 1) := by decide +kernel
theorem dX8_isAhead_70 : decode cX8_isAhead 70 = .ok (.isub, 1) := by decide +kernel
theorem dX8_isAhead_71 : decode cX8_isAhead 71 = .ok (.aload_n 0, 1) := by decide +kernel
theorem dX8_isAhead_72 : decode cX8_isAhead 72 = .ok (.getfield 69, 3) := by decide +kernel
theorem dX8_isAhead_75 : decode cX8_isAhead 75 = .ok (.iload_n 2, 1) := by decide +kernel
theorem dX8_isAhead_76 : decode cX8_isAhead 76 = .ok (.iaload, 1) := by decide +kernel
theorem dX8_isAhead_77 : decode cX8_isAhead 77 = .ok (.isub, 1) := by decide +kernel
theorem dX8_isAhead_78 : decode cX8_isAhead 78 = .ok (.aload_n 0, 1) := by decide +kernel
theorem dX8_isAhead_79 : decode cX8_isAhead 79 = .ok (.getfield 72, 3) := by decide +kernel
theorem dX8_isAhead_82 : decode cX8_isAhead 82 = .ok (.iload_n 2, 1) := by decide +kernel
theorem dX8_isAhead_83 : decode cX8_isAhead 83 = .ok (.iaload, 1) := by decide +kernel
theorem dX8_isAhead_84 : decode cX8_isAhead 84 = .ok (.iadd, 1) := by decide +kernel
theorem dX8_isAhead_85 : decode cX8_isAhead 85 = .ok (.goto 4, 3) := by decide +kernel
theorem dX8_isAhead_88 : decode cX8_isAhead 88 = .ok (.iload_n 3, 1) := by decide +kernel
theorem dX8_isAhead_89 : decode cX8_isAhead 89 = .ok (.istore_n 3, 1) := by decide +kernel
theorem dX8_isAhead_90 : decode cX8_isAhead 90 = .ok (.iload_n 3, 1) := by decide +kernel
theorem dX8_isAhead_91 : decode cX8_isAhead 91 = .ok (.ifCond .ne 19, 3) := by decide +kernel
theorem dX8_isAhead_94 : decode cX8_isAhead 94 = .ok (.aload_n 0, 1) := by decide +kernel
theorem dX8_isAhead_95 : decode cX8_isAhead 95 = .ok (.getfield 69, 3) := by decide +kernel
theorem dX8_isAhead_98 : decode cX8_isAhead 98 = .ok (.iload_n 1, 1) := by decide +kernel
theorem dX8_isAhead_99 : decode cX8_isAhead 99 = .ok (.iaload, 1) := by decide +kernel
theorem dX8_isAhead_100 : decode cX8_isAhead 100 = .ok (.aload_n 0, 1) := by decide +kernel
theorem dX8_isAhead_101 : decode cX8_isAhead 101 = .ok (.getfield 69, 3) := by decide +kernel
theorem dX8_isAhead_104 : decode cX8_isAhead 104 = .ok (.iload_n 2, 1) := by decide +kernel
theorem dX8_isAhead_105 : decode cX8_isAhead 105 = .ok (.iaload, 1) := by decide +kernel
theorem dX8_isAhead_106 : decode cX8_isAhead 106 = .ok (.isub, 1) := by decide +kernel
theorem dX8_isAhead_107 : decode cX8_isAhead 107 = .ok (.goto 4, 3) := by decide +kernel
theorem dX8_isAhead_110 : decode cX8_isAhead 110 = .ok (.iload_n 3, 1) := by decide +kernel
theorem dX8_isAhead_111 : decode cX8_isAhead 111 = .ok (.istore_n 3, 1) := by decide +kernel
theorem dX8_isAhead_112 : decode cX8_isAhead 112 = .ok (.iload_n 3, 1) := by decide +kernel
theorem dX8_isAhead_113 : decode cX8_isAhead 113 = .ok (.ifCond .gt 12, 3) := by decide +kernel
theorem dX8_isAhead_116 : decode cX8_isAhead 116 = .ok (.iload_n 3, 1) := by decide +kernel
theorem dX8_isAhead_117 : decode cX8_isAhead 117 = .ok (.ifCond .ne 12, 3) := by decide +kernel
theorem dX8_isAhead_120 : decode cX8_isAhead 120 = .ok (.iload_n 1, 1) := by decide +kernel
theorem dX8_isAhead_121 : decode cX8_isAhead 121 = .ok (.iload_n 2, 1) := by decide +kernel
theorem dX8_isAhead_122 : decode cX8_isAhead 122 = .ok (.if_icmp .ge 7, 3) := by decide +kernel
theorem dX8_isAhead_125 : decode cX8_isAhead 125 = .ok (.iconst 1, 1) := by decide +kernel
theorem dX8_isAhead_126 : decode cX8_isAhead 126 = .ok (.goto 4, 3) := by decide +kernel
theorem dX8_isAhead_129 : decode cX8_isAhead 129 = .ok (.iconst 0, 1) := by decide +kernel
theorem dX8_isAhead_130 : decode cX8_isAhead 130 = .ok (.ireturn, 1) := by decide +kernel
theorem dX8_ranked_0 : decode cX8_ranked 0 = .ok (.iconst 0, 1) := by decide +kernel
theorem dX8_ranked_1 : decode cX8_ranked 1 = .ok (.istore_n 2, 1) := by decide +kernel
theorem dX8_ranked_2 : decode cX8_ranked 2 = .ok (.iconst 0, 1) := by decide +kernel
theorem dX8_ranked_3 : decode cX8_ranked 3 = .ok (.istore_n 3, 1) := by decide +kernel
theorem dX8_ranked_4 : decode cX8_ranked 4 = .ok (.iload_n 3, 1) := by decide +kernel
theorem dX8_ranked_5 : decode cX8_ranked 5 = .ok (.aload_n 0, 1) := by decide +kernel
theorem dX8_ranked_6 : decode cX8_ranked 6 = .ok (.getfield 82, 3) := by decide +kernel
theorem dX8_ranked_9 : decode cX8_ranked 9 = .ok (.if_icmp .ge 68, 3) := by decide +kernel
theorem dX8_ranked_12 : decode cX8_ranked 12 = .ok (.iconst 0, 1) := by decide +kernel
theorem dX8_ranked_13 : decode cX8_ranked 13 = .ok (.istore 4, 2) := by decide +kernel
theorem dX8_ranked_15 : decode cX8_ranked 15 = .ok (.iconst 0, 1) := by decide +kernel
theorem dX8_ranked_16 : decode cX8_ranked 16 = .ok (.istore 5, 2) := by decide +kernel
theorem dX8_ranked_18 : decode cX8_ranked 18 = .ok (.iload 5, 2) := by decide +kernel
theorem dX8_ranked_20 : decode cX8_ranked 20 = .ok (.aload_n 0, 1) := by decide +kernel
theorem dX8_ranked_21 : decode cX8_ranked 21 = .ok (.getfield 82, 3) := by decide +kernel
theorem dX8_ranked_24 : decode cX8_ranked 24 = .ok (.if_icmp .ge 35, 3) := by decide +kernel
theorem dX8_ranked_27 : decode cX8_ranked 27 = .ok (.iload 4, 2) := by decide +kernel
theorem dX8_ranked_29 : decode cX8_ranked 29 = .ok (.iload 5, 2) := by decide +kernel
theorem dX8_ranked_31 : decode cX8_ranked 31 = .ok (.iload_n 3, 1) := by decide +kernel
theorem dX8_ranked_32 : decode cX8_ranked 32 = .ok (.if_icmp .eq 17, 3) := by decide +kernel
theorem dX8_ranked_35 : decode cX8_ranked 35 = .ok (.aload_n 0, 1) := by decide +kernel
theorem dX8_ranked_36 : decode cX8_ranked 36 = .ok (.iload 5, 2) := by decide +kernel
theorem dX8_ranked_38 : decode cX8_ranked 38 = .ok (.iload_n 3, 1) := by decide +kernel
theorem dX8_ranked_39 : decode cX8_ranked 39 = .ok (.invokevirtual 194, 3) := by decide +kernel
theorem dX8_ranked_42 : decode cX8_ranked 42 = .ok (.ifCond .eq 7, 3) := by decide +kernel
theorem dX8_ranked_45 : decode cX8_ranked 45 = .ok (.iconst 1, 1) := by decide +kernel
theorem dX8_ranked_46 : decode cX8_ranked 46 = .ok (.goto 4, 3) := by decide +kernel
theorem dX8_ranked_49 : decode cX8_ranked 49 = .ok (.iconst 0, 1) := by decide +kernel
theorem dX8_ranked_50 : decode cX8_ranked 50 = .ok (.iadd, 1) := by decide +kernel
theorem dX8_ranked_51 : decode cX8_ranked 51 = .ok (.istore 4, 2) := by decide +kernel
theorem dX8_ranked_53 : decode cX8_ranked 53 = .ok (.iinc 5 1, 3) := by decide +kernel
theorem dX8_ranked_56 : decode cX8_ranked 56 = .ok (.goto (-38), 3) := by decide +kernel
theorem dX8_ranked_59 : decode cX8_ranked 59 = .ok (.iload 4, 2) := by decide +kernel
theorem dX8_ranked_61 : decode cX8_ranked 61 = .ok (.iload_n 1, 1) := by decide +kernel
theorem dX8_ranked_62 : decode cX8_ranked 62 = .ok (.if_icmp .ne 7, 3) := by decide +kernel
theorem dX8_ranked_65 : decode cX8_ranked 65 = .ok (.iload_n 3, 1) := by decide +kernel
theorem dX8_ranked_66 : decode cX8_ranked 66 = .ok (.goto 4, 3) := by decide +kernel
theorem dX8_ranked_69 : decode cX8_ranked 69 = .ok (.iload_n 2, 1) := by decide +kernel
theorem dX8_ranked_70 : decode cX8_ranked 70 = .ok (.istore_n 2, 1) := by decide +kernel
theorem dX8_ranked_71 : decode cX8_ranked 71 = .ok (.iinc 3 1, 3) := by decide +kernel
theorem dX8_ranked_74 : decode cX8_ranked 74 = .ok (.goto (-70), 3) := by decide +kernel
theorem dX8_ranked_77 : decode cX8_ranked 77 = .ok (.iload_n 2, 1) := by decide +kernel
theorem dX8_ranked_78 : decode cX8_ranked 78 = .ok (.ireturn, 1) := by decide +kernel
theorem dX8_rankedAt_0 : decode cX8_rankedAt 0 = .ok (.aload_n 0, 1) := by decide +kernel
theorem dX8_rankedAt_1 : decode cX8_rankedAt 1 = .ok (.iload_n 1, 1) := by decide +kernel
theorem dX8_rankedAt_2 : decode cX8_rankedAt 2 = .ok (.iconst 0, 1) := by decide +kernel
theorem dX8_rankedAt_3 : decode cX8_rankedAt 3 = .ok (.aload_n 0, 1) := by decide +kernel
theorem dX8_rankedAt_4 : decode cX8_rankedAt 4 = .ok (.getfield 82, 3) := by decide +kernel
theorem dX8_rankedAt_7 : decode cX8_rankedAt 7 = .ok (.iconst 1, 1) := by decide +kernel
theorem dX8_rankedAt_8 : decode cX8_rankedAt 8 = .ok (.isub, 1) := by decide +kernel
theorem dX8_rankedAt_9 : decode cX8_rankedAt 9 = .ok (.invokestatic 85, 3) := by decide +kernel
theorem dX8_rankedAt_12 : decode cX8_rankedAt 12 = .ok (.iconst 1, 1) := by decide +kernel
theorem dX8_rankedAt_13 : decode cX8_rankedAt 13 = .ok (.iconst 1, 1) := by decide +kernel
theorem dX8_rankedAt_14 : decode cX8_rankedAt 14 = .ok (.invokevirtual 101, 3) := by decide +kernel
theorem dX8_rankedAt_17 : decode cX8_rankedAt 17 = .ok (.ifCond .ne 5, 3) := by decide +kernel
theorem dX8_rankedAt_20 : decode cX8_rankedAt 20 = .ok (.iconst 0, 1) := by decide +kernel
theorem dX8_rankedAt_21 : decode cX8_rankedAt 21 = .ok (.ireturn, 1) := by decide +kernel
theorem dX8_rankedAt_22 : decode cX8_rankedAt 22 = .ok (.aload_n 0, 1) := by decide +kernel
theorem dX8_rankedAt_23 : decode cX8_rankedAt 23 = .ok (.invokevirtual 191, 3) := by decide +kernel
theorem dX8_rankedAt_26 : decode cX8_rankedAt 26 = .ok (.aload_n 0, 1) := by decide +kernel
theorem dX8_rankedAt_27 : decode cX8_rankedAt 27 = .ok (.iload_n 1, 1) := by decide +kernel
theorem dX8_rankedAt_28 : decode cX8_rankedAt 28 = .ok (.invokevirtual 197, 3) := by decide +kernel
theorem dX8_rankedAt_31 : decode cX8_rankedAt 31 = .ok (.ireturn, 1) := by decide +kernel
theorem dX8_areDecided_0 : decode cX8_areDecided 0 = .ok (.iconst 1, 1) := by decide +kernel
theorem dX8_areDecided_1 : decode cX8_areDecided 1 = .ok (.istore_n 1, 1) := by decide +kernel
theorem dX8_areDecided_2 : decode cX8_areDecided 2 = .ok (.iconst 0, 1) := by decide +kernel
theorem dX8_areDecided_3 : decode cX8_areDecided 3 = .ok (.istore_n 2, 1) := by decide +kernel
theorem dX8_areDecided_4 : decode cX8_areDecided 4 = .ok (.iload_n 2, 1) := by decide +kernel
theorem dX8_areDecided_5 : decode cX8_areDecided 5 = .ok (.aload_n 0, 1) := by decide +kernel
theorem dX8_areDecided_6 : decode cX8_areDecided 6 = .ok (.getfield 92, 3) := by decide +kernel
theorem dX8_areDecided_9 : decode cX8_areDecided 9 = .ok (.if_icmp .ge 32, 3) := by decide +kernel
theorem dX8_areDecided_12 : decode cX8_areDecided 12 = .ok (.aload_n 0, 1) := by decide +kernel
theorem dX8_areDecided_13 : decode cX8_areDecided 13 = .ok (.iload_n 2, 1) := by decide +kernel
theorem dX8_areDecided_14 : decode cX8_areDecided 14 = .ok (.invokevirtual 145, 3) := by decide +kernel
theorem dX8_areDecided_17 : decode cX8_areDecided 17 = .ok (.iload_n 1, 1) := by decide +kernel
theorem dX8_areDecided_18 : decode cX8_areDecided 18 = .ok (.ifCond .eq 15, 3) := by decide +kernel
theorem dX8_areDecided_21 : decode cX8_areDecided 21 = .ok (.aload_n 0, 1) := by decide +kernel
theorem dX8_areDecided_22 : decode cX8_areDecided 22 = .ok (.getfield 135, 3) := by decide +kernel
theorem dX8_areDecided_25 : decode cX8_areDecided 25 = .ok (.iconst (-1), 1) := by decide +kernel
theorem dX8_areDecided_26 : decode cX8_areDecided 26 = .ok (.if_icmp .eq 7, 3) := by decide +kernel
theorem dX8_areDecided_29 : decode cX8_areDecided 29 = .ok (.iconst 1, 1) := by decide +kernel
theorem dX8_areDecided_30 : decode cX8_areDecided 30 = .ok (.goto 4, 3) := by decide +kernel
theorem dX8_areDecided_33 : decode cX8_areDecided 33 = .ok (.iconst 0, 1) := by decide +kernel
theorem dX8_areDecided_34 : decode cX8_areDecided 34 = .ok (.istore_n 1, 1) := by decide +kernel
theorem dX8_areDecided_35 : decode cX8_areDecided 35 = .ok (.iinc 2 1, 3) := by decide +kernel
theorem dX8_areDecided_38 : decode cX8_areDecided 38 = .ok (.goto (-34), 3) := by decide +kernel
theorem dX8_areDecided_41 : decode cX8_areDecided 41 = .ok (.iload_n 1, 1) := by decide +kernel
theorem dX8_areDecided_42 : decode cX8_areDecided 42 = .ok (.ireturn, 1) := by decide +kernel
theorem dX8_drawTableau_0 : decode cX8_drawTableau 0 = .ok (.aload_n 0, 1) := by decide +kernel
theorem dX8_drawTableau_1 : decode cX8_drawTableau 1 = .ok (.aload_n 0, 1) := by decide +kernel
theorem dX8_drawTableau_2 : decode cX8_drawTableau 2 = .ok (.getfield 98, 3) := by decide +kernel
theorem dX8_drawTableau_5 : decode cX8_drawTableau 5 = .ok (.ifCond .le 28, 3) := by decide +kernel
theorem dX8_drawTableau_8 : decode cX8_drawTableau 8 = .ok (.aload_n 0, 1) := by decide +kernel
theorem dX8_drawTableau_9 : decode cX8_drawTableau 9 = .ok (.getfield 95, 3) := by decide +kernel
theorem dX8_drawTableau_12 : decode cX8_drawTableau 12 = .ok (.ifCond .ne 21, 3) := by decide +kernel
theorem dX8_drawTableau_15 : decode cX8_drawTableau 15 = .ok (.aload_n 0, 1) := by decide +kernel
theorem dX8_drawTableau_16 : decode cX8_drawTableau 16 = .ok (.getfield 112, 3) := by decide +kernel
theorem dX8_drawTableau_19 : decode cX8_drawTableau 19 = .ok (.ifCond .ne 14, 3) := by decide +kernel
theorem dX8_drawTableau_22 : decode cX8_drawTableau 22 = .ok (.aload_n 0, 1) := by decide +kernel
theorem dX8_drawTableau_23 : decode cX8_drawTableau 23 = .ok (.invokevirtual 200, 3) := by decide +kernel
theorem dX8_drawTableau_26 : decode cX8_drawTableau 26 = .ok (.ifCond .eq 7, 3) := by decide +kernel
theorem dX8_drawTableau_29 : decode cX8_drawTableau 29 = .ok (.iconst 1, 1) := by decide +kernel
theorem dX8_drawTableau_30 : decode cX8_drawTableau 30 = .ok (.goto 4, 3) := by decide +kernel
theorem dX8_drawTableau_33 : decode cX8_drawTableau 33 = .ok (.iconst 0, 1) := by decide +kernel
theorem dX8_drawTableau_34 : decode cX8_drawTableau 34 = .ok (.iconst 1, 1) := by decide +kernel
theorem dX8_drawTableau_35 : decode cX8_drawTableau 35 = .ok (.iconst 1, 1) := by decide +kernel
theorem dX8_drawTableau_36 : decode cX8_drawTableau 36 = .ok (.invokevirtual 101, 3) := by decide +kernel
theorem dX8_drawTableau_39 : decode cX8_drawTableau 39 = .ok (.ifCond .ne 5, 3) := by decide +kernel
theorem dX8_drawTableau_42 : decode cX8_drawTableau 42 = .ok (.iconst 0, 1) := by decide +kernel
theorem dX8_drawTableau_43 : decode cX8_drawTableau 43 = .ok (.ireturn, 1) := by decide +kernel
theorem dX8_drawTableau_44 : decode cX8_drawTableau 44 = .ok (.iconst 2, 1) := by decide +kernel
theorem dX8_drawTableau_45 : decode cX8_drawTableau 45 = .ok (.istore_n 1, 1) := by decide +kernel
theorem dX8_drawTableau_46 : decode cX8_drawTableau 46 = .ok (.iload_n 1, 1) := by decide +kernel
theorem dX8_drawTableau_47 : decode cX8_drawTableau 47 = .ok (.aload_n 0, 1) := by decide +kernel
theorem dX8_drawTableau_48 : decode cX8_drawTableau 48 = .ok (.getfield 82, 3) := by decide +kernel
theorem dX8_drawTableau_51 : decode cX8_drawTableau 51 = .ok (.if_icmp .ge 10, 3) := by decide +kernel
theorem dX8_drawTableau_54 : decode cX8_drawTableau 54 = .ok (.iload_n 1, 1) := by decide +kernel
theorem dX8_drawTableau_55 : decode cX8_drawTableau 55 = .ok (.iconst 2, 1) := by decide +kernel
theorem dX8_drawTableau_56 : decode cX8_drawTableau 56 = .ok (.imul, 1) := by decide +kernel
theorem dX8_drawTableau_57 : decode cX8_drawTableau 57 = .ok (.istore_n 1, 1) := by decide +kernel
theorem dX8_drawTableau_58 : decode cX8_drawTableau 58 = .ok (.goto (-12), 3) := by decide +kernel
theorem dX8_drawTableau_61 : decode cX8_drawTableau 61 = .ok (.aload_n 0, 1) := by decide +kernel
theorem dX8_drawTableau_62 : decode cX8_drawTableau 62 = .ok (.getfield 60, 3) := by decide +kernel
theorem dX8_drawTableau_65 : decode cX8_drawTableau 65 = .ok (.iconst 0, 1) := by decide +kernel
theorem dX8_drawTableau_66 : decode cX8_drawTableau 66 = .ok (.iconst 1, 1) := by decide +kernel
theorem dX8_drawTableau_67 : decode cX8_drawTableau 67 = .ok (.iastore, 1) := by decide +kernel
theorem dX8_drawTableau_68 : decode cX8_drawTableau 68 = .ok (.iconst 1, 1) := by decide +kernel
theorem dX8_drawTableau_69 : decode cX8_drawTableau 69 = .ok (.istore_n 2, 1) := by decide +kernel
theorem dX8_drawTableau_70 : decode cX8_drawTableau 70 = .ok (.iload_n 2, 1) := by decide +kernel
theorem dX8_drawTableau_71 : decode cX8_drawTableau 71 = .ok (.iload_n 1, 1) := by decide +kernel
theorem dX8_drawTableau_72 : decode cX8_drawTableau 72 = .ok (.if_icmp .ge 62, 3) := by decide +kernel
theorem dX8_drawTableau_75 : decode cX8_drawTableau 75 = .ok (.iload_n 2, 1) := by decide +kernel
theorem dX8_drawTableau_76 : decode cX8_drawTableau 76 = .ok (.iconst 1, 1) := by decide +kernel
theorem dX8_drawTableau_77 : decode cX8_drawTableau 77 = .ok (.isub, 1) := by decide +kernel
theorem dX8_drawTableau_78 : decode cX8_drawTableau 78 = .ok (.istore_n 3, 1) := by decide +kernel
theorem dX8_drawTableau_79 : decode cX8_drawTableau 79 = .ok (.iload_n 3, 1) := by decide +kernel
theorem dX8_drawTableau_80 : decode cX8_drawTableau 80 = .ok (.ifCond .lt 47, 3) := by decide +kernel
theorem dX8_drawTableau_83 : decode cX8_drawTableau 83 = .ok (.aload_n 0, 1) := by decide +kernel
theorem dX8_drawTableau_84 : decode cX8_drawTableau 84 = .ok (.getfield 60, 3) := by decide +kernel
theorem dX8_drawTableau_87 : decode cX8_drawTableau 87 = .ok (.iconst 2, 1) := by decide +kernel
theorem dX8_drawTableau_88 : decode cX8_drawTableau 88 = .ok (.iload_n 3, 1) := by decide +kernel
theorem dX8_drawTableau_89 : decode cX8_drawTableau 89 = .ok (.imul, 1) := by decide +kernel
theorem dX8_drawTableau_90 : decode cX8_drawTableau 90 = .ok (.aload_n 0, 1) := by decide +kernel
theorem dX8_drawTableau_91 : decode cX8_drawTableau 91 = .ok (.getfield 60, 3) := by decide +kernel
theorem dX8_drawTableau_94 : decode cX8_drawTableau 94 = .ok (.iload_n 3, 1) := by decide +kernel
theorem dX8_drawTableau_95 : decode cX8_drawTableau 95 = .ok (.iaload, 1) := by decide +kernel
theorem dX8_drawTableau_96 : decode cX8_drawTableau 96 = .ok (.iastore, 1) := by decide +kernel
theorem dX8_drawTableau_97 : decode cX8_drawTableau 97 = .ok (.aload_n 0, 1) := by decide +kernel
theorem dX8_drawTableau_98 : decode cX8_drawTableau 98 = .ok (.getfield 60, 3) := by decide +kernel
theorem dX8_drawTableau_101 : decode cX8_drawTableau 101 = .ok (.iconst 2, 1) := by decide +kernel
theorem dX8_drawTableau_102 : decode cX8_drawTableau 102 = .ok (.iload_n 3, 1) := by decide +kernel
theorem dX8_drawTableau_103 : decode cX8_drawTableau 103 = .ok (.imul, 1) := by decide +kernel
theorem dX8_drawTableau_104 : decode cX8_drawTableau 104 = .ok (.iconst 1, 1) := by decide +kernel
theorem dX8_drawTableau_105 : decode cX8_drawTableau 105 = .ok (.iadd, 1) := by decide +kernel
theorem dX8_drawTableau_106 : decode cX8_drawTableau 106 = .ok (.iconst 2, 1) := by decide +kernel
theorem dX8_drawTableau_107 : decode cX8_drawTableau 107 = .ok (.iload_n 2, 1) := by decide +kernel
theorem dX8_drawTableau_108 : decode cX8_drawTableau 108 = .ok (.imul, 1) := by decide +kernel
theorem dX8_drawTableau_109 : decode cX8_drawTableau 109 = .ok (.iconst 1, 1) := by decide +kernel
theorem dX8_drawTableau_110 : decode cX8_drawTableau 110 = .ok (.iadd, 1) := by decide +kernel
theorem dX8_drawTableau_111 : decode cX8_drawTableau 111 = .ok (.aload_n 0, 1) := by decide +kernel
theorem dX8_drawTableau_112 : decode cX8_drawTableau 112 = .ok (.getfield 60, 3) := by decide +kernel
theorem dX8_drawTableau_115 : decode cX8_drawTableau 115 = .ok (.iconst 2, 1) := by decide +kernel
theorem dX8_drawTableau_116 : decode cX8_drawTableau 116 = .ok (.iload_n 3, 1) := by decide +kernel
theorem dX8_drawTableau_117 : decode cX8_drawTableau 117 = .ok (.imul, 1) := by decide +kernel
theorem dX8_drawTableau_118 : decode cX8_drawTableau 118 = .ok (.iaload, 1) := by decide +kernel
theorem dX8_drawTableau_119 : decode cX8_drawTableau 119 = .ok (.isub, 1) := by decide +kernel
theorem dX8_drawTableau_120 : decode cX8_drawTableau 120 = .ok (.iastore, 1) := by decide +kernel
theorem dX8_drawTableau_121 : decode cX8_drawTableau 121 = .ok (.iinc 3 (-1), 3) := by decide +kernel
theorem dX8_drawTableau_124 : decode cX8_drawTableau 124 = .ok (.goto (-45), 3) := by decide +kernel
theorem dX8_drawTableau_127 : decode cX8_drawTableau 127 = .ok (.iload_n 2, 1) := by decide +kernel
theorem dX8_drawTableau_128 : decode cX8_drawTableau 128 = .ok (.iconst 2, 1) := by decide +kernel
theorem dX8_drawTableau_129 : decode cX8_drawTableau 129 = .ok (.imul, 1) := by decide +kernel
theorem dX8_drawTableau_130 : decode cX8_drawTableau 130 = .ok (.istore_n 2, 1) := by decide +kernel
theorem dX8_drawTableau_131 : decode cX8_drawTableau 131 = .ok (.goto (-61), 3) := by decide +kernel
theorem dX8_drawTableau_134 : decode cX8_drawTableau 134 = .ok (.iconst 1, 1) := by decide +kernel
theorem dX8_drawTableau_135 : decode cX8_drawTableau 135 = .ok (.istore_n 3, 1) := by decide +kernel
theorem dX8_drawTableau_136 : decode cX8_drawTableau 136 = .ok (.iload_n 3, 1) := by decide +kernel
theorem dX8_drawTableau_137 : decode cX8_drawTableau 137 = .ok (.iload_n 1, 1) := by decide +kernel
theorem dX8_drawTableau_138 : decode cX8_drawTableau 138 = .ok (.if_icmp .ge 16, 3) := by decide +kernel
theorem dX8_drawTableau_141 : decode cX8_drawTableau 141 = .ok (.aload_n 0, 1) := by decide +kernel
theorem dX8_drawTableau_142 : decode cX8_drawTableau 142 = .ok (.getfield 54, 3) := by decide +kernel
theorem dX8_drawTableau_145 : decode cX8_drawTableau 145 = .ok (.iload_n 3, 1) := by decide +kernel
theorem dX8_drawTableau_146 : decode cX8_drawTableau 146 = .ok (.iconst (-1), 1) := by decide +kernel
theorem dX8_drawTableau_147 : decode cX8_drawTableau 147 = .ok (.iastore, 1) := by decide +kernel
theorem dX8_drawTableau_148 : decode cX8_drawTableau 148 = .ok (.iinc 3 1, 3) := by decide +kernel
theorem dX8_drawTableau_151 : decode cX8_drawTableau 151 = .ok (.goto (-15), 3) := by decide +kernel
theorem dX8_drawTableau_154 : decode cX8_drawTableau 154 = .ok (.aload_n 0, 1) := by decide +kernel
theorem dX8_drawTableau_155 : decode cX8_drawTableau 155 = .ok (.invokevirtual 191, 3) := by decide +kernel
theorem dX8_drawTableau_158 : decode cX8_drawTableau 158 = .ok (.iconst 0, 1) := by decide +kernel
theorem dX8_drawTableau_159 : decode cX8_drawTableau 159 = .ok (.istore_n 3, 1) := by decide +kernel
theorem dX8_drawTableau_160 : decode cX8_drawTableau 160 = .ok (.iload_n 3, 1) := by decide +kernel
theorem dX8_drawTableau_161 : decode cX8_drawTableau 161 = .ok (.iload_n 1, 1) := by decide +kernel
theorem dX8_drawTableau_162 : decode cX8_drawTableau 162 = .ok (.if_icmp .ge 47, 3) := by decide +kernel
theorem dX8_drawTableau_165 : decode cX8_drawTableau 165 = .ok (.aload_n 0, 1) := by decide +kernel
theorem dX8_drawTableau_166 : decode cX8_drawTableau 166 = .ok (.getfield 54, 3) := by decide +kernel
theorem dX8_drawTableau_169 : decode cX8_drawTableau 169 = .ok (.iload_n 1, 1) := by decide +kernel
theorem dX8_drawTableau_170 : decode cX8_drawTableau 170 = .ok (.iload_n 3, 1) := by decide +kernel
theorem dX8_drawTableau_171 : decode cX8_drawTableau 171 = .ok (.iadd, 1) := by decide +kernel
theorem dX8_drawTableau_172 : decode cX8_drawTableau 172 = .ok (.aload_n 0, 1) := by decide +kernel
theorem dX8_drawTableau_173 : decode cX8_drawTableau 173 = .ok (.getfield 60, 3) := by decide +kernel
theorem dX8_drawTableau_176 : decode cX8_drawTableau 176 = .ok (.iload_n 3, 1) := by decide +kernel
theorem dX8_drawTableau_177 : decode cX8_drawTableau 177 = .ok (.iaload, 1) := by decide +kernel
theorem dX8_drawTableau_178 : decode cX8_drawTableau 178 = .ok (.aload_n 0, 1) := by decide +kernel
theorem dX8_drawTableau_179 : decode cX8_drawTableau 179 = .ok (.getfield 82, 3) := by decide +kernel
theorem dX8_drawTableau_182 : decode cX8_drawTableau 182 = .ok (.if_icmp .le 8, 3) := by decide +kernel
theorem dX8_drawTableau_185 : decode cX8_drawTableau 185 = .ok (.bipush (-2), 2) := by decide +kernel
theorem dX8_drawTableau_187 : decode cX8_drawTableau 187 = .ok (.goto 15, 3) := by decide +kernel
theorem dX8_drawTableau_190 : decode cX8_drawTableau 190 = .ok (.aload_n 0, 1) := by decide +kernel
theorem dX8_drawTableau_191 : decode cX8_drawTableau 191 = .ok (.aload_n 0, 1) := by decide +kernel
theorem dX8_drawTableau_192 : decode cX8_drawTableau 192 = .ok (.getfield 60, 3) := by decide +kernel
theorem dX8_drawTableau_195 : decode cX8_drawTableau 195 = .ok (.iload_n 3, 1) := by decide +kernel
theorem dX8_drawTableau_196 : decode cX8_drawTableau 196 = .ok (.iaload, 1) := by decide +kernel
theorem dX8_drawTableau_197 : decode cX8_drawTableau 197 = .ok (.iconst 1, 1) := by decide +kernel
theorem dX8_drawTableau_198 : decode cX8_drawTableau 198 = .ok (.isub, 1) := by decide +kernel
theorem dX8_drawTableau_199 : decode cX8_drawTableau 199 = .ok (.invokevirtual 197, 3) := by decide +kernel
theorem dX8_drawTableau_202 : decode cX8_drawTableau 202 = .ok (.iastore, 1) := by decide +kernel
theorem dX8_drawTableau_203 : decode cX8_drawTableau 203 = .ok (.iinc 3 1, 3) := by decide +kernel
theorem dX8_drawTableau_206 : decode cX8_drawTableau 206 = .ok (.goto (-46), 3) := by decide +kernel
theorem dX8_drawTableau_209 : decode cX8_drawTableau 209 = .ok (.aload_n 0, 1) := by decide +kernel
theorem dX8_drawTableau_210 : decode cX8_drawTableau 210 = .ok (.iload_n 1, 1) := by decide +kernel
theorem dX8_drawTableau_211 : decode cX8_drawTableau 211 = .ok (.putfield 95, 3) := by decide +kernel
theorem dX8_drawTableau_214 : decode cX8_drawTableau 214 = .ok (.aload_n 0, 1) := by decide +kernel
end
section
theorem dX8_drawTableau_215 : decode cX8_drawTableau 215 = .ok (.iconst (-1), 1) := by decide +kernel
theorem dX8_drawTableau_216 : decode cX8_drawTableau 216 = .ok (.putfield 47, 3) := by decide +kernel
theorem dX8_drawTableau_219 : decode cX8_drawTableau 219 = .ok (.aload_n 0, 1) := by decide +kernel
theorem dX8_drawTableau_220 : decode cX8_drawTableau 220 = .ok (.invokevirtual 115, 3) := by decide +kernel
theorem dX8_drawTableau_223 : decode cX8_drawTableau 223 = .ok (.aload_n 0, 1) := by decide +kernel
theorem dX8_drawTableau_224 : decode cX8_drawTableau 224 = .ok (.getfield 95, 3) := by decide +kernel
theorem dX8_drawTableau_227 : decode cX8_drawTableau 227 = .ok (.ireturn, 1) := by decide +kernel
theorem dX8_size_0 : decode cX8_size 0 = .ok (.aload_n 0, 1) := by decide +kernel
theorem dX8_size_1 : decode cX8_size 1 = .ok (.iconst 0, 1) := by decide +kernel
theorem dX8_size_2 : decode cX8_size 2 = .ok (.putfield 79, 3) := by decide +kernel
theorem dX8_size_5 : decode cX8_size 5 = .ok (.aload_n 0, 1) := by decide +kernel
theorem dX8_size_6 : decode cX8_size 6 = .ok (.getfield 95, 3) := by decide +kernel
theorem dX8_size_9 : decode cX8_size 9 = .ok (.ireturn, 1) := by decide +kernel
theorem dX8_nodeWinner_0 : decode cX8_nodeWinner 0 = .ok (.aload_n 0, 1) := by decide +kernel
theorem dX8_nodeWinner_1 : decode cX8_nodeWinner 1 = .ok (.aload_n 0, 1) := by decide +kernel
theorem dX8_nodeWinner_2 : decode cX8_nodeWinner 2 = .ok (.getfield 95, 3) := by decide +kernel
theorem dX8_nodeWinner_5 : decode cX8_nodeWinner 5 = .ok (.ifCond .le 23, 3) := by decide +kernel
theorem dX8_nodeWinner_8 : decode cX8_nodeWinner 8 = .ok (.iload_n 1, 1) := by decide +kernel
theorem dX8_nodeWinner_9 : decode cX8_nodeWinner 9 = .ok (.iconst 1, 1) := by decide +kernel
theorem dX8_nodeWinner_10 : decode cX8_nodeWinner 10 = .ok (.iconst 2, 1) := by decide +kernel
theorem dX8_nodeWinner_11 : decode cX8_nodeWinner 11 = .ok (.aload_n 0, 1) := by decide +kernel
theorem dX8_nodeWinner_12 : decode cX8_nodeWinner 12 = .ok (.getfield 95, 3) := by decide +kernel
theorem dX8_nodeWinner_15 : decode cX8_nodeWinner 15 = .ok (.imul, 1) := by decide +kernel
theorem dX8_nodeWinner_16 : decode cX8_nodeWinner 16 = .ok (.iconst 1, 1) := by decide +kernel
theorem dX8_nodeWinner_17 : decode cX8_nodeWinner 17 = .ok (.isub, 1) := by decide +kernel
theorem dX8_nodeWinner_18 : decode cX8_nodeWinner 18 = .ok (.invokestatic 85, 3) := by decide +kernel
theorem dX8_nodeWinner_21 : decode cX8_nodeWinner 21 = .ok (.ifCond .eq 7, 3) := by decide +kernel
theorem dX8_nodeWinner_24 : decode cX8_nodeWinner 24 = .ok (.iconst 1, 1) := by decide +kernel
theorem dX8_nodeWinner_25 : decode cX8_nodeWinner 25 = .ok (.goto 4, 3) := by decide +kernel
theorem dX8_nodeWinner_28 : decode cX8_nodeWinner 28 = .ok (.iconst 0, 1) := by decide +kernel
theorem dX8_nodeWinner_29 : decode cX8_nodeWinner 29 = .ok (.iconst 1, 1) := by decide +kernel
theorem dX8_nodeWinner_30 : decode cX8_nodeWinner 30 = .ok (.iconst 1, 1) := by decide +kernel
theorem dX8_nodeWinner_31 : decode cX8_nodeWinner 31 = .ok (.invokevirtual 101, 3) := by decide +kernel
theorem dX8_nodeWinner_34 : decode cX8_nodeWinner 34 = .ok (.ifCond .ne 5, 3) := by decide +kernel
theorem dX8_nodeWinner_37 : decode cX8_nodeWinner 37 = .ok (.iconst 0, 1) := by decide +kernel
theorem dX8_nodeWinner_38 : decode cX8_nodeWinner 38 = .ok (.ireturn, 1) := by decide +kernel
theorem dX8_nodeWinner_39 : decode cX8_nodeWinner 39 = .ok (.aload_n 0, 1) := by decide +kernel
theorem dX8_nodeWinner_40 : decode cX8_nodeWinner 40 = .ok (.getfield 54, 3) := by decide +kernel
theorem dX8_nodeWinner_43 : decode cX8_nodeWinner 43 = .ok (.iload_n 1, 1) := by decide +kernel
theorem dX8_nodeWinner_44 : decode cX8_nodeWinner 44 = .ok (.iaload, 1) := by decide +kernel
theorem dX8_nodeWinner_45 : decode cX8_nodeWinner 45 = .ok (.ifCond .ge 7, 3) := by decide +kernel
theorem dX8_nodeWinner_48 : decode cX8_nodeWinner 48 = .ok (.iconst (-1), 1) := by decide +kernel
theorem dX8_nodeWinner_49 : decode cX8_nodeWinner 49 = .ok (.goto 9, 3) := by decide +kernel
theorem dX8_nodeWinner_52 : decode cX8_nodeWinner 52 = .ok (.aload_n 0, 1) := by decide +kernel
theorem dX8_nodeWinner_53 : decode cX8_nodeWinner 53 = .ok (.getfield 54, 3) := by decide +kernel
theorem dX8_nodeWinner_56 : decode cX8_nodeWinner 56 = .ok (.iload_n 1, 1) := by decide +kernel
theorem dX8_nodeWinner_57 : decode cX8_nodeWinner 57 = .ok (.iaload, 1) := by decide +kernel
theorem dX8_nodeWinner_58 : decode cX8_nodeWinner 58 = .ok (.ireturn, 1) := by decide +kernel
theorem dX8_gone_0 : decode cX8_gone 0 = .ok (.aload_n 0, 1) := by decide +kernel
theorem dX8_gone_1 : decode cX8_gone 1 = .ok (.iconst 0, 1) := by decide +kernel
theorem dX8_gone_2 : decode cX8_gone 2 = .ok (.putfield 79, 3) := by decide +kernel
theorem dX8_gone_5 : decode cX8_gone 5 = .ok (.aload_n 0, 1) := by decide +kernel
theorem dX8_gone_6 : decode cX8_gone 6 = .ok (.getfield 142, 3) := by decide +kernel
theorem dX8_gone_9 : decode cX8_gone 9 = .ok (.ireturn, 1) := by decide +kernel
theorem dL_cell_0 : decode cL_cell 0 = .ok (.iload_n 1, 1) := by decide +kernel
theorem dL_cell_1 : decode cL_cell 1 = .ok (.aload_n 0, 1) := by decide +kernel
theorem dL_cell_2 : decode cL_cell 2 = .ok (.arraylength, 1) := by decide +kernel
theorem dL_cell_3 : decode cL_cell 3 = .ok (.if_icmp .ge 9, 3) := by decide +kernel
theorem dL_cell_6 : decode cL_cell 6 = .ok (.aload_n 0, 1) := by decide +kernel
theorem dL_cell_7 : decode cL_cell 7 = .ok (.iload_n 1, 1) := by decide +kernel
theorem dL_cell_8 : decode cL_cell 8 = .ok (.iaload, 1) := by decide +kernel
theorem dL_cell_9 : decode cL_cell 9 = .ok (.goto 4, 3) := by decide +kernel
theorem dL_cell_12 : decode cL_cell 12 = .ok (.iconst 0, 1) := by decide +kernel
theorem dL_cell_13 : decode cL_cell 13 = .ok (.ireturn, 1) := by decide +kernel
theorem dL_fencer_0 : decode cL_fencer 0 = .ok (.aload_n 1, 1) := by decide +kernel
theorem dL_fencer_1 : decode cL_fencer 1 = .ok (.iconst 0, 1) := by decide +kernel
theorem dL_fencer_2 : decode cL_fencer 2 = .ok (.aload_n 0, 1) := by decide +kernel
theorem dL_fencer_3 : decode cL_fencer 3 = .ok (.invokevirtual 7, 3) := by decide +kernel
theorem dL_fencer_6 : decode cL_fencer 6 = .ok (.i2l, 1) := by decide +kernel
theorem dL_fencer_7 : decode cL_fencer 7 = .ok (.lastore, 1) := by decide +kernel
theorem dL_fencer_8 : decode cL_fencer 8 = .ok (.goto 6, 3) := by decide +kernel
theorem dL_fencer_11 : decode cL_fencer 11 = .ok (.astore_n 2, 1) := by decide +kernel
theorem dL_fencer_12 : decode cL_fencer 12 = .ok (.iconst 1, 1) := by decide +kernel
theorem dL_fencer_13 : decode cL_fencer 13 = .ok (.ireturn, 1) := by decide +kernel
theorem dL_fencer_14 : decode cL_fencer 14 = .ok (.iconst 0, 1) := by decide +kernel
theorem dL_fencer_15 : decode cL_fencer 15 = .ok (.ireturn, 1) := by decide +kernel
theorem dL_weapon_0 : decode cL_weapon 0 = .ok (.aload_n 2, 1) := by decide +kernel
theorem dL_weapon_1 : decode cL_weapon 1 = .ok (.iconst 0, 1) := by decide +kernel
theorem dL_weapon_2 : decode cL_weapon 2 = .ok (.aload_n 0, 1) := by decide +kernel
theorem dL_weapon_3 : decode cL_weapon 3 = .ok (.iload_n 1, 1) := by decide +kernel
theorem dL_weapon_4 : decode cL_weapon 4 = .ok (.invokevirtual 15, 3) := by decide +kernel
theorem dL_weapon_7 : decode cL_weapon 7 = .ok (.i2l, 1) := by decide +kernel
theorem dL_weapon_8 : decode cL_weapon 8 = .ok (.lastore, 1) := by decide +kernel
theorem dL_weapon_9 : decode cL_weapon 9 = .ok (.goto 9, 3) := by decide +kernel
theorem dL_weapon_12 : decode cL_weapon 12 = .ok (.astore_n 3, 1) := by decide +kernel
theorem dL_weapon_13 : decode cL_weapon 13 = .ok (.iconst 1, 1) := by decide +kernel
theorem dL_weapon_14 : decode cL_weapon 14 = .ok (.ireturn, 1) := by decide +kernel
theorem dL_weapon_15 : decode cL_weapon 15 = .ok (.astore_n 3, 1) := by decide +kernel
theorem dL_weapon_16 : decode cL_weapon 16 = .ok (.iconst 2, 1) := by decide +kernel
theorem dL_weapon_17 : decode cL_weapon 17 = .ok (.ireturn, 1) := by decide +kernel
theorem dL_weapon_18 : decode cL_weapon 18 = .ok (.iconst 0, 1) := by decide +kernel
theorem dL_weapon_19 : decode cL_weapon 19 = .ok (.ireturn, 1) := by decide +kernel
theorem dL_test_0 : decode cL_test 0 = .ok (.aload 4, 2) := by decide +kernel
theorem dL_test_2 : decode cL_test 2 = .ok (.iconst 0, 1) := by decide +kernel
theorem dL_test_3 : decode cL_test 3 = .ok (.aload_n 0, 1) := by decide +kernel
theorem dL_test_4 : decode cL_test 4 = .ok (.iload_n 1, 1) := by decide +kernel
theorem dL_test_5 : decode cL_test 5 = .ok (.iload_n 2, 1) := by decide +kernel
theorem dL_test_6 : decode cL_test 6 = .ok (.iload_n 3, 1) := by decide +kernel
theorem dL_test_7 : decode cL_test 7 = .ok (.invokevirtual 21, 3) := by decide +kernel
theorem dL_test_10 : decode cL_test 10 = .ok (.ifCond .eq 7, 3) := by decide +kernel
theorem dL_test_13 : decode cL_test 13 = .ok (.lconst 1, 1) := by decide +kernel
theorem dL_test_14 : decode cL_test 14 = .ok (.goto 4, 3) := by decide +kernel
theorem dL_test_17 : decode cL_test 17 = .ok (.lconst 0, 1) := by decide +kernel
theorem dL_test_18 : decode cL_test 18 = .ok (.lastore, 1) := by decide +kernel
theorem dL_test_19 : decode cL_test 19 = .ok (.goto 15, 3) := by decide +kernel
theorem dL_test_22 : decode cL_test 22 = .ok (.astore 5, 2) := by decide +kernel
theorem dL_test_24 : decode cL_test 24 = .ok (.iconst 1, 1) := by decide +kernel
theorem dL_test_25 : decode cL_test 25 = .ok (.ireturn, 1) := by decide +kernel
theorem dL_test_26 : decode cL_test 26 = .ok (.astore 5, 2) := by decide +kernel
theorem dL_test_28 : decode cL_test 28 = .ok (.iconst 2, 1) := by decide +kernel
theorem dL_test_29 : decode cL_test 29 = .ok (.ireturn, 1) := by decide +kernel
theorem dL_test_30 : decode cL_test 30 = .ok (.astore 5, 2) := by decide +kernel
theorem dL_test_32 : decode cL_test 32 = .ok (.iconst 3, 1) := by decide +kernel
theorem dL_test_33 : decode cL_test 33 = .ok (.ireturn, 1) := by decide +kernel
theorem dL_test_34 : decode cL_test 34 = .ok (.iconst 0, 1) := by decide +kernel
theorem dL_test_35 : decode cL_test 35 = .ok (.ireturn, 1) := by decide +kernel
theorem dL_mark_0 : decode cL_mark 0 = .ok (.aload_n 2, 1) := by decide +kernel
theorem dL_mark_1 : decode cL_mark 1 = .ok (.iconst 0, 1) := by decide +kernel
theorem dL_mark_2 : decode cL_mark 2 = .ok (.aload_n 0, 1) := by decide +kernel
theorem dL_mark_3 : decode cL_mark 3 = .ok (.iload_n 1, 1) := by decide +kernel
theorem dL_mark_4 : decode cL_mark 4 = .ok (.invokevirtual 27, 3) := by decide +kernel
theorem dL_mark_7 : decode cL_mark 7 = .ok (.i2l, 1) := by decide +kernel
theorem dL_mark_8 : decode cL_mark 8 = .ok (.lastore, 1) := by decide +kernel
theorem dL_mark_9 : decode cL_mark 9 = .ok (.goto 6, 3) := by decide +kernel
theorem dL_mark_12 : decode cL_mark 12 = .ok (.astore_n 3, 1) := by decide +kernel
theorem dL_mark_13 : decode cL_mark 13 = .ok (.iconst 1, 1) := by decide +kernel
theorem dL_mark_14 : decode cL_mark 14 = .ok (.ireturn, 1) := by decide +kernel
theorem dL_mark_15 : decode cL_mark 15 = .ok (.iconst 0, 1) := by decide +kernel
theorem dL_mark_16 : decode cL_mark 16 = .ok (.ireturn, 1) := by decide +kernel
theorem dL_owner_0 : decode cL_owner 0 = .ok (.aload_n 2, 1) := by decide +kernel
theorem dL_owner_1 : decode cL_owner 1 = .ok (.iconst 0, 1) := by decide +kernel
theorem dL_owner_2 : decode cL_owner 2 = .ok (.aload_n 0, 1) := by decide +kernel
theorem dL_owner_3 : decode cL_owner 3 = .ok (.iload_n 1, 1) := by decide +kernel
theorem dL_owner_4 : decode cL_owner 4 = .ok (.invokevirtual 30, 3) := by decide +kernel
theorem dL_owner_7 : decode cL_owner 7 = .ok (.i2l, 1) := by decide +kernel
theorem dL_owner_8 : decode cL_owner 8 = .ok (.lastore, 1) := by decide +kernel
theorem dL_owner_9 : decode cL_owner 9 = .ok (.goto 6, 3) := by decide +kernel
theorem dL_owner_12 : decode cL_owner 12 = .ok (.astore_n 3, 1) := by decide +kernel
theorem dL_owner_13 : decode cL_owner 13 = .ok (.iconst 1, 1) := by decide +kernel
theorem dL_owner_14 : decode cL_owner 14 = .ok (.ireturn, 1) := by decide +kernel
theorem dL_owner_15 : decode cL_owner 15 = .ok (.iconst 0, 1) := by decide +kernel
theorem dL_owner_16 : decode cL_owner 16 = .ok (.ireturn, 1) := by decide +kernel
theorem dL_begin_0 : decode cL_begin 0 = .ok (.aload 4, 2) := by decide +kernel
theorem dL_begin_2 : decode cL_begin 2 = .ok (.iconst 0, 1) := by decide +kernel
theorem dL_begin_3 : decode cL_begin 3 = .ok (.aload_n 0, 1) := by decide +kernel
theorem dL_begin_4 : decode cL_begin 4 = .ok (.iload_n 1, 1) := by decide +kernel
theorem dL_begin_5 : decode cL_begin 5 = .ok (.iload_n 2, 1) := by decide +kernel
theorem dL_begin_6 : decode cL_begin 6 = .ok (.iload_n 3, 1) := by decide +kernel
theorem dL_begin_7 : decode cL_begin 7 = .ok (.invokevirtual 33, 3) := by decide +kernel
theorem dL_begin_10 : decode cL_begin 10 = .ok (.i2l, 1) := by decide +kernel
theorem dL_begin_11 : decode cL_begin 11 = .ok (.lastore, 1) := by decide +kernel
theorem dL_begin_12 : decode cL_begin 12 = .ok (.goto 11, 3) := by decide +kernel
theorem dL_begin_15 : decode cL_begin 15 = .ok (.astore 5, 2) := by decide +kernel
theorem dL_begin_17 : decode cL_begin 17 = .ok (.iconst 1, 1) := by decide +kernel
theorem dL_begin_18 : decode cL_begin 18 = .ok (.ireturn, 1) := by decide +kernel
theorem dL_begin_19 : decode cL_begin 19 = .ok (.astore 5, 2) := by decide +kernel
theorem dL_begin_21 : decode cL_begin 21 = .ok (.iconst 2, 1) := by decide +kernel
theorem dL_begin_22 : decode cL_begin 22 = .ok (.ireturn, 1) := by decide +kernel
theorem dL_begin_23 : decode cL_begin 23 = .ok (.iconst 0, 1) := by decide +kernel
theorem dL_begin_24 : decode cL_begin 24 = .ok (.ireturn, 1) := by decide +kernel
theorem dL_change_0 : decode cL_change 0 = .ok (.aload_n 3, 1) := by decide +kernel
theorem dL_change_1 : decode cL_change 1 = .ok (.iconst 0, 1) := by decide +kernel
theorem dL_change_2 : decode cL_change 2 = .ok (.aload_n 0, 1) := by decide +kernel
theorem dL_change_3 : decode cL_change 3 = .ok (.iload_n 1, 1) := by decide +kernel
theorem dL_change_4 : decode cL_change 4 = .ok (.iload_n 2, 1) := by decide +kernel
theorem dL_change_5 : decode cL_change 5 = .ok (.invokevirtual 37, 3) := by decide +kernel
theorem dL_change_8 : decode cL_change 8 = .ok (.i2l, 1) := by decide +kernel
theorem dL_change_9 : decode cL_change 9 = .ok (.lastore, 1) := by decide +kernel
theorem dL_change_10 : decode cL_change 10 = .ok (.goto 11, 3) := by decide +kernel
theorem dL_change_13 : decode cL_change 13 = .ok (.astore 4, 2) := by decide +kernel
theorem dL_change_15 : decode cL_change 15 = .ok (.iconst 1, 1) := by decide +kernel
theorem dL_change_16 : decode cL_change 16 = .ok (.ireturn, 1) := by decide +kernel
theorem dL_change_17 : decode cL_change 17 = .ok (.astore 4, 2) := by decide +kernel
theorem dL_change_19 : decode cL_change 19 = .ok (.iconst 2, 1) := by decide +kernel
theorem dL_change_20 : decode cL_change 20 = .ok (.ireturn, 1) := by decide +kernel
theorem dL_change_21 : decode cL_change 21 = .ok (.iconst 0, 1) := by decide +kernel
theorem dL_change_22 : decode cL_change 22 = .ok (.ireturn, 1) := by decide +kernel
theorem dL_allez_0 : decode cL_allez 0 = .ok (.aload_n 1, 1) := by decide +kernel
theorem dL_allez_1 : decode cL_allez 1 = .ok (.iconst 0, 1) := by decide +kernel
theorem dL_allez_2 : decode cL_allez 2 = .ok (.aload_n 0, 1) := by decide +kernel
theorem dL_allez_3 : decode cL_allez 3 = .ok (.invokevirtual 41, 3) := by decide +kernel
theorem dL_allez_6 : decode cL_allez 6 = .ok (.i2l, 1) := by decide +kernel
theorem dL_allez_7 : decode cL_allez 7 = .ok (.lastore, 1) := by decide +kernel
theorem dL_allez_8 : decode cL_allez 8 = .ok (.goto 6, 3) := by decide +kernel
theorem dL_allez_11 : decode cL_allez 11 = .ok (.astore_n 2, 1) := by decide +kernel
theorem dL_allez_12 : decode cL_allez 12 = .ok (.iconst 1, 1) := by decide +kernel
theorem dL_allez_13 : decode cL_allez 13 = .ok (.ireturn, 1) := by decide +kernel
theorem dL_allez_14 : decode cL_allez 14 = .ok (.iconst 0, 1) := by decide +kernel
theorem dL_allez_15 : decode cL_allez 15 = .ok (.ireturn, 1) := by decide +kernel
theorem dL_contact_0 : decode cL_contact 0 = .ok (.aload 4, 2) := by decide +kernel
theorem dL_contact_2 : decode cL_contact 2 = .ok (.iconst 0, 1) := by decide +kernel
theorem dL_contact_3 : decode cL_contact 3 = .ok (.aload_n 0, 1) := by decide +kernel
theorem dL_contact_4 : decode cL_contact 4 = .ok (.iload_n 1, 1) := by decide +kernel
theorem dL_contact_5 : decode cL_contact 5 = .ok (.iload_n 2, 1) := by decide +kernel
theorem dL_contact_6 : decode cL_contact 6 = .ok (.iload_n 3, 1) := by decide +kernel
theorem dL_contact_7 : decode cL_contact 7 = .ok (.invokevirtual 44, 3) := by decide +kernel
theorem dL_contact_10 : decode cL_contact 10 = .ok (.i2l, 1) := by decide +kernel
theorem dL_contact_11 : decode cL_contact 11 = .ok (.lastore, 1) := by decide +kernel
theorem dL_contact_12 : decode cL_contact 12 = .ok (.goto 15, 3) := by decide +kernel
theorem dL_contact_15 : decode cL_contact 15 = .ok (.astore 5, 2) := by decide +kernel
theorem dL_contact_17 : decode cL_contact 17 = .ok (.iconst 1, 1) := by decide +kernel
theorem dL_contact_18 : decode cL_contact 18 = .ok (.ireturn, 1) := by decide +kernel
theorem dL_contact_19 : decode cL_contact 19 = .ok (.astore 5, 2) := by decide +kernel
theorem dL_contact_21 : decode cL_contact 21 = .ok (.iconst 2, 1) := by decide +kernel
theorem dL_contact_22 : decode cL_contact 22 = .ok (.ireturn, 1) := by decide +kernel
theorem dL_contact_23 : decode cL_contact 23 = .ok (.astore 5, 2) := by decide +kernel
theorem dL_contact_25 : decode cL_contact 25 = .ok (.iconst 3, 1) := by decide +kernel
theorem dL_contact_26 : decode cL_contact 26 = .ok (.ireturn, 1) := by decide +kernel
theorem dL_contact_27 : decode cL_contact 27 = .ok (.iconst 0, 1) := by decide +kernel
theorem dL_contact_28 : decode cL_contact 28 = .ok (.ireturn, 1) := by decide +kernel
theorem dL_right_0 : decode cL_right 0 = .ok (.aload_n 3, 1) := by decide +kernel
theorem dL_right_1 : decode cL_right 1 = .ok (.iconst 0, 1) := by decide +kernel
theorem dL_right_2 : decode cL_right 2 = .ok (.aload_n 0, 1) := by decide +kernel
theorem dL_right_3 : decode cL_right 3 = .ok (.iload_n 1, 1) := by decide +kernel
theorem dL_right_4 : decode cL_right 4 = .ok (.iload_n 2, 1) := by decide +kernel
theorem dL_right_5 : decode cL_right 5 = .ok (.invokevirtual 48, 3) := by decide +kernel
theorem dL_right_8 : decode cL_right 8 = .ok (.i2l, 1) := by decide +kernel
theorem dL_right_9 : decode cL_right 9 = .ok (.lastore, 1) := by decide +kernel
theorem dL_right_10 : decode cL_right 10 = .ok (.goto 11, 3) := by decide +kernel
theorem dL_right_13 : decode cL_right 13 = .ok (.astore 4, 2) := by decide +kernel
theorem dL_right_15 : decode cL_right 15 = .ok (.iconst 1, 1) := by decide +kernel
theorem dL_right_16 : decode cL_right 16 = .ok (.ireturn, 1) := by decide +kernel
theorem dL_right_17 : decode cL_right 17 = .ok (.astore 4, 2) := by decide +kernel
theorem dL_right_19 : decode cL_right 19 = .ok (.iconst 2, 1) := by decide +kernel
theorem dL_right_20 : decode cL_right 20 = .ok (.ireturn, 1) := by decide +kernel
theorem dL_right_21 : decode cL_right 21 = .ok (.iconst 0, 1) := by decide +kernel
theorem dL_right_22 : decode cL_right 22 = .ok (.ireturn, 1) := by decide +kernel
theorem dL_halt_0 : decode cL_halt 0 = .ok (.aload_n 1, 1) := by decide +kernel
theorem dL_halt_1 : decode cL_halt 1 = .ok (.iconst 0, 1) := by decide +kernel
theorem dL_halt_2 : decode cL_halt 2 = .ok (.aload_n 0, 1) := by decide +kernel
theorem dL_halt_3 : decode cL_halt 3 = .ok (.invokevirtual 51, 3) := by decide +kernel
theorem dL_halt_6 : decode cL_halt 6 = .ok (.i2l, 1) := by decide +kernel
theorem dL_halt_7 : decode cL_halt 7 = .ok (.lastore, 1) := by decide +kernel
theorem dL_halt_8 : decode cL_halt 8 = .ok (.goto 6, 3) := by decide +kernel
theorem dL_halt_11 : decode cL_halt 11 = .ok (.astore_n 2, 1) := by decide +kernel
theorem dL_halt_12 : decode cL_halt 12 = .ok (.iconst 1, 1) := by decide +kernel
theorem dL_halt_13 : decode cL_halt 13 = .ok (.ireturn, 1) := by decide +kernel
theorem dL_halt_14 : decode cL_halt 14 = .ok (.iconst 0, 1) := by decide +kernel
theorem dL_halt_15 : decode cL_halt 15 = .ok (.ireturn, 1) := by decide +kernel
theorem dL_appeal_0 : decode cL_appeal 0 = .ok (.aload_n 3, 1) := by decide +kernel
theorem dL_appeal_1 : decode cL_appeal 1 = .ok (.iconst 0, 1) := by decide +kernel
theorem dL_appeal_2 : decode cL_appeal 2 = .ok (.aload_n 0, 1) := by decide +kernel
theorem dL_appeal_3 : decode cL_appeal 3 = .ok (.iload_n 1, 1) := by decide +kernel
theorem dL_appeal_4 : decode cL_appeal 4 = .ok (.iload_n 2, 1) := by decide +kernel
theorem dL_appeal_5 : decode cL_appeal 5 = .ok (.invokevirtual 54, 3) := by decide +kernel
theorem dL_appeal_8 : decode cL_appeal 8 = .ok (.i2l, 1) := by decide +kernel
theorem dL_appeal_9 : decode cL_appeal 9 = .ok (.lastore, 1) := by decide +kernel
theorem dL_appeal_10 : decode cL_appeal 10 = .ok (.goto 15, 3) := by decide +kernel
theorem dL_appeal_13 : decode cL_appeal 13 = .ok (.astore 4, 2) := by decide +kernel
theorem dL_appeal_15 : decode cL_appeal 15 = .ok (.iconst 1, 1) := by decide +kernel
theorem dL_appeal_16 : decode cL_appeal 16 = .ok (.ireturn, 1) := by decide +kernel
theorem dL_appeal_17 : decode cL_appeal 17 = .ok (.astore 4, 2) := by decide +kernel
theorem dL_appeal_19 : decode cL_appeal 19 = .ok (.iconst 2, 1) := by decide +kernel
theorem dL_appeal_20 : decode cL_appeal 20 = .ok (.ireturn, 1) := by decide +kernel
theorem dL_appeal_21 : decode cL_appeal 21 = .ok (.astore 4, 2) := by decide +kernel
theorem dL_appeal_23 : decode cL_appeal 23 = .ok (.iconst 3, 1) := by decide +kernel
theorem dL_appeal_24 : decode cL_appeal 24 = .ok (.ireturn, 1) := by decide +kernel
theorem dL_appeal_25 : decode cL_appeal 25 = .ok (.iconst 0, 1) := by decide +kernel
theorem dL_appeal_26 : decode cL_appeal 26 = .ok (.ireturn, 1) := by decide +kernel
theorem dL_weaponOf_0 : decode cL_weaponOf 0 = .ok (.aload_n 2, 1) := by decide +kernel
theorem dL_weaponOf_1 : decode cL_weaponOf 1 = .ok (.iconst 0, 1) := by decide +kernel
theorem dL_weaponOf_2 : decode cL_weaponOf 2 = .ok (.aload_n 0, 1) := by decide +kernel
theorem dL_weaponOf_3 : decode cL_weaponOf 3 = .ok (.iload_n 1, 1) := by decide +kernel
theorem dL_weaponOf_4 : decode cL_weaponOf 4 = .ok (.invokevirtual 57, 3) := by decide +kernel
theorem dL_weaponOf_7 : decode cL_weaponOf 7 = .ok (.i2l, 1) := by decide +kernel
theorem dL_weaponOf_8 : decode cL_weaponOf 8 = .ok (.lastore, 1) := by decide +kernel
theorem dL_weaponOf_9 : decode cL_weaponOf 9 = .ok (.goto 6, 3) := by decide +kernel
theorem dL_weaponOf_12 : decode cL_weaponOf 12 = .ok (.astore_n 3, 1) := by decide +kernel
theorem dL_weaponOf_13 : decode cL_weaponOf 13 = .ok (.iconst 1, 1) := by decide +kernel
theorem dL_weaponOf_14 : decode cL_weaponOf 14 = .ok (.ireturn, 1) := by decide +kernel
theorem dL_weaponOf_15 : decode cL_weaponOf 15 = .ok (.iconst 0, 1) := by decide +kernel
theorem dL_weaponOf_16 : decode cL_weaponOf 16 = .ok (.ireturn, 1) := by decide +kernel
theorem dL_fencerOf_0 : decode cL_fencerOf 0 = .ok (.aload_n 3, 1) := by decide +kernel
theorem dL_fencerOf_1 : decode cL_fencerOf 1 = .ok (.iconst 0, 1) := by decide +kernel
theorem dL_fencerOf_2 : decode cL_fencerOf 2 = .ok (.aload_n 0, 1) := by decide +kernel
theorem dL_fencerOf_3 : decode cL_fencerOf 3 = .ok (.iload_n 1, 1) := by decide +kernel
theorem dL_fencerOf_4 : decode cL_fencerOf 4 = .ok (.iload_n 2, 1) := by decide +kernel
theorem dL_fencerOf_5 : decode cL_fencerOf 5 = .ok (.invokevirtual 60, 3) := by decide +kernel
theorem dL_fencerOf_8 : decode cL_fencerOf 8 = .ok (.i2l, 1) := by decide +kernel
theorem dL_fencerOf_9 : decode cL_fencerOf 9 = .ok (.lastore, 1) := by decide +kernel
theorem dL_fencerOf_10 : decode cL_fencerOf 10 = .ok (.goto 7, 3) := by decide +kernel
theorem dL_fencerOf_13 : decode cL_fencerOf 13 = .ok (.astore 4, 2) := by decide +kernel
theorem dL_fencerOf_15 : decode cL_fencerOf 15 = .ok (.iconst 1, 1) := by decide +kernel
theorem dL_fencerOf_16 : decode cL_fencerOf 16 = .ok (.ireturn, 1) := by decide +kernel
theorem dL_fencerOf_17 : decode cL_fencerOf 17 = .ok (.iconst 0, 1) := by decide +kernel
theorem dL_fencerOf_18 : decode cL_fencerOf 18 = .ok (.ireturn, 1) := by decide +kernel
theorem dL_score_0 : decode cL_score 0 = .ok (.aload_n 3, 1) := by decide +kernel
theorem dL_score_1 : decode cL_score 1 = .ok (.iconst 0, 1) := by decide +kernel
theorem dL_score_2 : decode cL_score 2 = .ok (.aload_n 0, 1) := by decide +kernel
theorem dL_score_3 : decode cL_score 3 = .ok (.iload_n 1, 1) := by decide +kernel
theorem dL_score_4 : decode cL_score 4 = .ok (.iload_n 2, 1) := by decide +kernel
theorem dL_score_5 : decode cL_score 5 = .ok (.invokevirtual 63, 3) := by decide +kernel
theorem dL_score_8 : decode cL_score 8 = .ok (.i2l, 1) := by decide +kernel
theorem dL_score_9 : decode cL_score 9 = .ok (.lastore, 1) := by decide +kernel
theorem dL_score_10 : decode cL_score 10 = .ok (.goto 7, 3) := by decide +kernel
theorem dL_score_13 : decode cL_score 13 = .ok (.astore 4, 2) := by decide +kernel
theorem dL_score_15 : decode cL_score 15 = .ok (.iconst 1, 1) := by decide +kernel
theorem dL_score_16 : decode cL_score 16 = .ok (.ireturn, 1) := by decide +kernel
theorem dL_score_17 : decode cL_score 17 = .ok (.iconst 0, 1) := by decide +kernel
theorem dL_score_18 : decode cL_score 18 = .ok (.ireturn, 1) := by decide +kernel
theorem dL_scoreAnew_0 : decode cL_scoreAnew 0 = .ok (.aload_n 3, 1) := by decide +kernel
theorem dL_scoreAnew_1 : decode cL_scoreAnew 1 = .ok (.iconst 0, 1) := by decide +kernel
theorem dL_scoreAnew_2 : decode cL_scoreAnew 2 = .ok (.aload_n 0, 1) := by decide +kernel
theorem dL_scoreAnew_3 : decode cL_scoreAnew 3 = .ok (.iload_n 1, 1) := by decide +kernel
theorem dL_scoreAnew_4 : decode cL_scoreAnew 4 = .ok (.iload_n 2, 1) := by decide +kernel
theorem dL_scoreAnew_5 : decode cL_scoreAnew 5 = .ok (.invokevirtual 66, 3) := by decide +kernel
theorem dL_scoreAnew_8 : decode cL_scoreAnew 8 = .ok (.i2l, 1) := by decide +kernel
theorem dL_scoreAnew_9 : decode cL_scoreAnew 9 = .ok (.lastore, 1) := by decide +kernel
theorem dL_scoreAnew_10 : decode cL_scoreAnew 10 = .ok (.goto 7, 3) := by decide +kernel
theorem dL_scoreAnew_13 : decode cL_scoreAnew 13 = .ok (.astore 4, 2) := by decide +kernel
theorem dL_scoreAnew_15 : decode cL_scoreAnew 15 = .ok (.iconst 1, 1) := by decide +kernel
theorem dL_scoreAnew_16 : decode cL_scoreAnew 16 = .ok (.ireturn, 1) := by decide +kernel
theorem dL_scoreAnew_17 : decode cL_scoreAnew 17 = .ok (.iconst 0, 1) := by decide +kernel
theorem dL_scoreAnew_18 : decode cL_scoreAnew 18 = .ok (.ireturn, 1) := by decide +kernel
theorem dL_winner_0 : decode cL_winner 0 = .ok (.aload_n 2, 1) := by decide +kernel
theorem dL_winner_1 : decode cL_winner 1 = .ok (.iconst 0, 1) := by decide +kernel
theorem dL_winner_2 : decode cL_winner 2 = .ok (.aload_n 0, 1) := by decide +kernel
theorem dL_winner_3 : decode cL_winner 3 = .ok (.iload_n 1, 1) := by decide +kernel
theorem dL_winner_4 : decode cL_winner 4 = .ok (.invokevirtual 69, 3) := by decide +kernel
theorem dL_winner_7 : decode cL_winner 7 = .ok (.i2l, 1) := by decide +kernel
theorem dL_winner_8 : decode cL_winner 8 = .ok (.lastore, 1) := by decide +kernel
theorem dL_winner_9 : decode cL_winner 9 = .ok (.goto 6, 3) := by decide +kernel
theorem dL_winner_12 : decode cL_winner 12 = .ok (.astore_n 3, 1) := by decide +kernel
theorem dL_winner_13 : decode cL_winner 13 = .ok (.iconst 1, 1) := by decide +kernel
theorem dL_winner_14 : decode cL_winner 14 = .ok (.ireturn, 1) := by decide +kernel
theorem dL_winner_15 : decode cL_winner 15 = .ok (.iconst 0, 1) := by decide +kernel
theorem dL_winner_16 : decode cL_winner 16 = .ok (.ireturn, 1) := by decide +kernel
theorem dL_phrases_0 : decode cL_phrases 0 = .ok (.aload_n 2, 1) := by decide +kernel
theorem dL_phrases_1 : decode cL_phrases 1 = .ok (.iconst 0, 1) := by decide +kernel
theorem dL_phrases_2 : decode cL_phrases 2 = .ok (.aload_n 0, 1) := by decide +kernel
theorem dL_phrases_3 : decode cL_phrases 3 = .ok (.iload_n 1, 1) := by decide +kernel
theorem dL_phrases_4 : decode cL_phrases 4 = .ok (.invokevirtual 72, 3) := by decide +kernel
theorem dL_phrases_7 : decode cL_phrases 7 = .ok (.i2l, 1) := by decide +kernel
theorem dL_phrases_8 : decode cL_phrases 8 = .ok (.lastore, 1) := by decide +kernel
theorem dL_phrases_9 : decode cL_phrases 9 = .ok (.goto 6, 3) := by decide +kernel
theorem dL_phrases_12 : decode cL_phrases 12 = .ok (.astore_n 3, 1) := by decide +kernel
theorem dL_phrases_13 : decode cL_phrases 13 = .ok (.iconst 1, 1) := by decide +kernel
theorem dL_phrases_14 : decode cL_phrases 14 = .ok (.ireturn, 1) := by decide +kernel
theorem dL_phrases_15 : decode cL_phrases 15 = .ok (.iconst 0, 1) := by decide +kernel
theorem dL_phrases_16 : decode cL_phrases 16 = .ok (.ireturn, 1) := by decide +kernel
theorem dL_touches_0 : decode cL_touches 0 = .ok (.aload_n 3, 1) := by decide +kernel
theorem dL_touches_1 : decode cL_touches 1 = .ok (.iconst 0, 1) := by decide +kernel
theorem dL_touches_2 : decode cL_touches 2 = .ok (.aload_n 0, 1) := by decide +kernel
theorem dL_touches_3 : decode cL_touches 3 = .ok (.iload_n 1, 1) := by decide +kernel
theorem dL_touches_4 : decode cL_touches 4 = .ok (.iload_n 2, 1) := by decide +kernel
theorem dL_touches_5 : decode cL_touches 5 = .ok (.invokevirtual 75, 3) := by decide +kernel
theorem dL_touches_8 : decode cL_touches 8 = .ok (.i2l, 1) := by decide +kernel
theorem dL_touches_9 : decode cL_touches 9 = .ok (.lastore, 1) := by decide +kernel
theorem dL_touches_10 : decode cL_touches 10 = .ok (.goto 7, 3) := by decide +kernel
theorem dL_touches_13 : decode cL_touches 13 = .ok (.astore 4, 2) := by decide +kernel
theorem dL_touches_15 : decode cL_touches 15 = .ok (.iconst 1, 1) := by decide +kernel
theorem dL_touches_16 : decode cL_touches 16 = .ok (.ireturn, 1) := by decide +kernel
theorem dL_touches_17 : decode cL_touches 17 = .ok (.iconst 0, 1) := by decide +kernel
theorem dL_touches_18 : decode cL_touches 18 = .ok (.ireturn, 1) := by decide +kernel
theorem dL_appeals_0 : decode cL_appeals 0 = .ok (.aload_n 3, 1) := by decide +kernel
theorem dL_appeals_1 : decode cL_appeals 1 = .ok (.iconst 0, 1) := by decide +kernel
theorem dL_appeals_2 : decode cL_appeals 2 = .ok (.aload_n 0, 1) := by decide +kernel
theorem dL_appeals_3 : decode cL_appeals 3 = .ok (.iload_n 1, 1) := by decide +kernel
theorem dL_appeals_4 : decode cL_appeals 4 = .ok (.iload_n 2, 1) := by decide +kernel
theorem dL_appeals_5 : decode cL_appeals 5 = .ok (.invokevirtual 78, 3) := by decide +kernel
theorem dL_appeals_8 : decode cL_appeals 8 = .ok (.i2l, 1) := by decide +kernel
theorem dL_appeals_9 : decode cL_appeals 9 = .ok (.lastore, 1) := by decide +kernel
theorem dL_appeals_10 : decode cL_appeals 10 = .ok (.goto 7, 3) := by decide +kernel
theorem dL_appeals_13 : decode cL_appeals 13 = .ok (.astore 4, 2) := by decide +kernel
theorem dL_appeals_15 : decode cL_appeals 15 = .ok (.iconst 1, 1) := by decide +kernel
theorem dL_appeals_16 : decode cL_appeals 16 = .ok (.ireturn, 1) := by decide +kernel
theorem dL_appeals_17 : decode cL_appeals 17 = .ok (.iconst 0, 1) := by decide +kernel
theorem dL_appeals_18 : decode cL_appeals 18 = .ok (.ireturn, 1) := by decide +kernel
theorem dL_drawPools_0 : decode cL_drawPools 0 = .ok (.aload_n 2, 1) := by decide +kernel
theorem dL_drawPools_1 : decode cL_drawPools 1 = .ok (.iconst 0, 1) := by decide +kernel
theorem dL_drawPools_2 : decode cL_drawPools 2 = .ok (.aload_n 0, 1) := by decide +kernel
theorem dL_drawPools_3 : decode cL_drawPools 3 = .ok (.iload_n 1, 1) := by decide +kernel
theorem dL_drawPools_4 : decode cL_drawPools 4 = .ok (.invokevirtual 81, 3) := by decide +kernel
theorem dL_drawPools_7 : decode cL_drawPools 7 = .ok (.i2l, 1) := by decide +kernel
theorem dL_drawPools_8 : decode cL_drawPools 8 = .ok (.lastore, 1) := by decide +kernel
theorem dL_drawPools_9 : decode cL_drawPools 9 = .ok (.goto 9, 3) := by decide +kernel
theorem dL_drawPools_12 : decode cL_drawPools 12 = .ok (.astore_n 3, 1) := by decide +kernel
theorem dL_drawPools_13 : decode cL_drawPools 13 = .ok (.iconst 1, 1) := by decide +kernel
theorem dL_drawPools_14 : decode cL_drawPools 14 = .ok (.ireturn, 1) := by decide +kernel
theorem dL_drawPools_15 : decode cL_drawPools 15 = .ok (.astore_n 3, 1) := by decide +kernel
theorem dL_drawPools_16 : decode cL_drawPools 16 = .ok (.iconst 2, 1) := by decide +kernel
theorem dL_drawPools_17 : decode cL_drawPools 17 = .ok (.ireturn, 1) := by decide +kernel
theorem dL_drawPools_18 : decode cL_drawPools 18 = .ok (.iconst 0, 1) := by decide +kernel
theorem dL_drawPools_19 : decode cL_drawPools 19 = .ok (.ireturn, 1) := by decide +kernel
theorem dL_won_0 : decode cL_won 0 = .ok (.aload_n 2, 1) := by decide +kernel
theorem dL_won_1 : decode cL_won 1 = .ok (.iconst 0, 1) := by decide +kernel
theorem dL_won_2 : decode cL_won 2 = .ok (.aload_n 0, 1) := by decide +kernel
theorem dL_won_3 : decode cL_won 3 = .ok (.iload_n 1, 1) := by decide +kernel
theorem dL_won_4 : decode cL_won 4 = .ok (.invokevirtual 84, 3) := by decide +kernel
theorem dL_won_7 : decode cL_won 7 = .ok (.i2l, 1) := by decide +kernel
theorem dL_won_8 : decode cL_won 8 = .ok (.lastore, 1) := by decide +kernel
theorem dL_won_9 : decode cL_won 9 = .ok (.goto 6, 3) := by decide +kernel
theorem dL_won_12 : decode cL_won 12 = .ok (.astore_n 3, 1) := by decide +kernel
theorem dL_won_13 : decode cL_won 13 = .ok (.iconst 1, 1) := by decide +kernel
theorem dL_won_14 : decode cL_won 14 = .ok (.ireturn, 1) := by decide +kernel
theorem dL_won_15 : decode cL_won 15 = .ok (.iconst 0, 1) := by decide +kernel
theorem dL_won_16 : decode cL_won 16 = .ok (.ireturn, 1) := by decide +kernel
theorem dL_index_0 : decode cL_index 0 = .ok (.aload_n 2, 1) := by decide +kernel
theorem dL_index_1 : decode cL_index 1 = .ok (.iconst 0, 1) := by decide +kernel
theorem dL_index_2 : decode cL_index 2 = .ok (.aload_n 0, 1) := by decide +kernel
theorem dL_index_3 : decode cL_index 3 = .ok (.iload_n 1, 1) := by decide +kernel
theorem dL_index_4 : decode cL_index 4 = .ok (.invokevirtual 87, 3) := by decide +kernel
theorem dL_index_7 : decode cL_index 7 = .ok (.i2l, 1) := by decide +kernel
theorem dL_index_8 : decode cL_index 8 = .ok (.lastore, 1) := by decide +kernel
theorem dL_index_9 : decode cL_index 9 = .ok (.goto 6, 3) := by decide +kernel
theorem dL_index_12 : decode cL_index 12 = .ok (.astore_n 3, 1) := by decide +kernel
theorem dL_index_13 : decode cL_index 13 = .ok (.iconst 1, 1) := by decide +kernel
theorem dL_index_14 : decode cL_index 14 = .ok (.ireturn, 1) := by decide +kernel
theorem dL_index_15 : decode cL_index 15 = .ok (.iconst 0, 1) := by decide +kernel
theorem dL_index_16 : decode cL_index 16 = .ok (.ireturn, 1) := by decide +kernel
theorem dL_rankedAt_0 : decode cL_rankedAt 0 = .ok (.aload_n 2, 1) := by decide +kernel
theorem dL_rankedAt_1 : decode cL_rankedAt 1 = .ok (.iconst 0, 1) := by decide +kernel
theorem dL_rankedAt_2 : decode cL_rankedAt 2 = .ok (.aload_n 0, 1) := by decide +kernel
theorem dL_rankedAt_3 : decode cL_rankedAt 3 = .ok (.iload_n 1, 1) := by decide +kernel
theorem dL_rankedAt_4 : decode cL_rankedAt 4 = .ok (.invokevirtual 90, 3) := by decide +kernel
theorem dL_rankedAt_7 : decode cL_rankedAt 7 = .ok (.i2l, 1) := by decide +kernel
theorem dL_rankedAt_8 : decode cL_rankedAt 8 = .ok (.lastore, 1) := by decide +kernel
theorem dL_rankedAt_9 : decode cL_rankedAt 9 = .ok (.goto 6, 3) := by decide +kernel
theorem dL_rankedAt_12 : decode cL_rankedAt 12 = .ok (.astore_n 3, 1) := by decide +kernel
theorem dL_rankedAt_13 : decode cL_rankedAt 13 = .ok (.iconst 1, 1) := by decide +kernel
theorem dL_rankedAt_14 : decode cL_rankedAt 14 = .ok (.ireturn, 1) := by decide +kernel
theorem dL_rankedAt_15 : decode cL_rankedAt 15 = .ok (.iconst 0, 1) := by decide +kernel
theorem dL_rankedAt_16 : decode cL_rankedAt 16 = .ok (.ireturn, 1) := by decide +kernel
theorem dL_drawTableau_0 : decode cL_drawTableau 0 = .ok (.aload_n 1, 1) := by decide +kernel
theorem dL_drawTableau_1 : decode cL_drawTableau 1 = .ok (.iconst 0, 1) := by decide +kernel
theorem dL_drawTableau_2 : decode cL_drawTableau 2 = .ok (.aload_n 0, 1) := by decide +kernel
theorem dL_drawTableau_3 : decode cL_drawTableau 3 = .ok (.invokevirtual 93, 3) := by decide +kernel
theorem dL_drawTableau_6 : decode cL_drawTableau 6 = .ok (.i2l, 1) := by decide +kernel
theorem dL_drawTableau_7 : decode cL_drawTableau 7 = .ok (.lastore, 1) := by decide +kernel
theorem dL_drawTableau_8 : decode cL_drawTableau 8 = .ok (.goto 6, 3) := by decide +kernel
theorem dL_drawTableau_11 : decode cL_drawTableau 11 = .ok (.astore_n 2, 1) := by decide +kernel
theorem dL_drawTableau_12 : decode cL_drawTableau 12 = .ok (.iconst 1, 1) := by decide +kernel
theorem dL_drawTableau_13 : decode cL_drawTableau 13 = .ok (.ireturn, 1) := by decide +kernel
theorem dL_drawTableau_14 : decode cL_drawTableau 14 = .ok (.iconst 0, 1) := by decide +kernel
theorem dL_drawTableau_15 : decode cL_drawTableau 15 = .ok (.ireturn, 1) := by decide +kernel
theorem dL_nodeWinner_0 : decode cL_nodeWinner 0 = .ok (.aload_n 2, 1) := by decide +kernel
theorem dL_nodeWinner_1 : decode cL_nodeWinner 1 = .ok (.iconst 0, 1) := by decide +kernel
theorem dL_nodeWinner_2 : decode cL_nodeWinner 2 = .ok (.aload_n 0, 1) := by decide +kernel
theorem dL_nodeWinner_3 : decode cL_nodeWinner 3 = .ok (.iload_n 1, 1) := by decide +kernel
theorem dL_nodeWinner_4 : decode cL_nodeWinner 4 = .ok (.invokevirtual 96, 3) := by decide +kernel
theorem dL_nodeWinner_7 : decode cL_nodeWinner 7 = .ok (.i2l, 1) := by decide +kernel
theorem dL_nodeWinner_8 : decode cL_nodeWinner 8 = .ok (.lastore, 1) := by decide +kernel
theorem dL_nodeWinner_9 : decode cL_nodeWinner 9 = .ok (.goto 6, 3) := by decide +kernel
theorem dL_nodeWinner_12 : decode cL_nodeWinner 12 = .ok (.astore_n 3, 1) := by decide +kernel
theorem dL_nodeWinner_13 : decode cL_nodeWinner 13 = .ok (.iconst 1, 1) := by decide +kernel
theorem dL_nodeWinner_14 : decode cL_nodeWinner 14 = .ok (.ireturn, 1) := by decide +kernel
theorem dL_nodeWinner_15 : decode cL_nodeWinner 15 = .ok (.iconst 0, 1) := by decide +kernel
theorem dL_nodeWinner_16 : decode cL_nodeWinner 16 = .ok (.ireturn, 1) := by decide +kernel
theorem dL_law_0 : decode cL_law 0 = .ok (.new 8, 3) := by decide +kernel
theorem dL_law_3 : decode cL_law 3 = .ok (.dup, 1) := by decide +kernel
theorem dL_law_4 : decode cL_law 4 = .ok (.aload_n 0, 1) := by decide +kernel
theorem dL_law_5 : decode cL_law 5 = .ok (.iconst 0, 1) := by decide +kernel
theorem dL_law_6 : decode cL_law 6 = .ok (.invokestatic 99, 3) := by decide +kernel
theorem dL_law_9 : decode cL_law 9 = .ok (.invokespecial 105, 3) := by decide +kernel
theorem dL_law_12 : decode cL_law 12 = .ok (.astore_n 1, 1) := by decide +kernel
theorem dL_law_13 : decode cL_law 13 = .ok (.new 108, 3) := by decide +kernel
theorem dL_law_16 : decode cL_law 16 = .ok (.dup, 1) := by decide +kernel
theorem dL_law_17 : decode cL_law 17 = .ok (.aload_n 0, 1) := by decide +kernel
theorem dL_law_18 : decode cL_law 18 = .ok (.iconst 0, 1) := by decide +kernel
theorem dL_law_19 : decode cL_law 19 = .ok (.invokestatic 99, 3) := by decide +kernel
theorem dL_law_22 : decode cL_law 22 = .ok (.invokespecial 110, 3) := by decide +kernel
theorem dL_law_25 : decode cL_law 25 = .ok (.astore_n 2, 1) := by decide +kernel
theorem dL_law_26 : decode cL_law 26 = .ok (.iconst 1, 1) := by decide +kernel
theorem dL_law_27 : decode cL_law 27 = .ok (.newarray .long, 2) := by decide +kernel
theorem dL_law_29 : decode cL_law 29 = .ok (.astore_n 3, 1) := by decide +kernel
theorem dL_law_30 : decode cL_law 30 = .ok (.iconst 1, 1) := by decide +kernel
theorem dL_law_31 : decode cL_law 31 = .ok (.istore 4, 2) := by decide +kernel
theorem dL_law_33 : decode cL_law 33 = .ok (.iload 4, 2) := by decide +kernel
theorem dL_law_35 : decode cL_law 35 = .ok (.aload_n 0, 1) := by decide +kernel
theorem dL_law_36 : decode cL_law 36 = .ok (.arraylength, 1) := by decide +kernel
theorem dL_law_37 : decode cL_law 37 = .ok (.iconst 4, 1) := by decide +kernel
theorem dL_law_38 : decode cL_law 38 = .ok (.isub, 1) := by decide +kernel
theorem dL_law_39 : decode cL_law 39 = .ok (.if_icmp .gt 1836, 3) := by decide +kernel
theorem dL_law_42 : decode cL_law 42 = .ok (.aload_n 0, 1) := by decide +kernel
theorem dL_law_43 : decode cL_law 43 = .ok (.iload 4, 2) := by decide +kernel
theorem dL_law_45 : decode cL_law 45 = .ok (.iaload, 1) := by decide +kernel
theorem dL_law_46 : decode cL_law 46 = .ok (.bipush 31, 2) := by decide +kernel
theorem dL_law_48 : decode cL_law 48 = .ok (.iand, 1) := by decide +kernel
theorem dL_law_49 : decode cL_law 49 = .ok (.tableswitch 1820 0 31 #[143, 187, 243, 330, 343, 399, 455, 535, 603, 647, 743, 811, 855, 923, 936, 949, 1005, 1073, 1141, 1209, 1265, 1321, 1389, 1457, 1513, 1526, 1582, 1638, 1694, 1738, 1751, 1807], 143) := by decide +kernel
theorem dL_law_192 : decode cL_law 192 = .ok (.aload_n 1, 1) := by decide +kernel
theorem dL_law_193 : decode cL_law 193 = .ok (.aload_n 3, 1) := by decide +kernel
theorem dL_law_194 : decode cL_law 194 = .ok (.invokestatic 111, 3) := by decide +kernel
theorem dL_law_197 : decode cL_law 197 = .ok (.istore 5, 2) := by decide +kernel
theorem dL_law_199 : decode cL_law 199 = .ok (.aload_n 2, 1) := by decide +kernel
theorem dL_law_200 : decode cL_law 200 = .ok (.invokevirtual 114, 3) := by decide +kernel
theorem dL_law_203 : decode cL_law 203 = .ok (.istore 6, 2) := by decide +kernel
theorem dL_law_205 : decode cL_law 205 = .ok (.aload_n 2, 1) := by decide +kernel
theorem dL_law_206 : decode cL_law 206 = .ok (.invokevirtual 115, 3) := by decide +kernel
theorem dL_law_209 : decode cL_law 209 = .ok (.iload 5, 2) := by decide +kernel
theorem dL_law_211 : decode cL_law 211 = .ok (.if_icmp .eq 5, 3) := by decide +kernel
theorem dL_law_214 : decode cL_law 214 = .ok (.iconst 0, 1) := by decide +kernel
theorem dL_law_215 : decode cL_law 215 = .ok (.ireturn, 1) := by decide +kernel
theorem dL_law_216 : decode cL_law 216 = .ok (.iload 5, 2) := by decide +kernel
theorem dL_law_218 : decode cL_law 218 = .ok (.ifCond .ne 15, 3) := by decide +kernel
theorem dL_law_221 : decode cL_law 221 = .ok (.aload_n 3, 1) := by decide +kernel
theorem dL_law_222 : decode cL_law 222 = .ok (.iconst 0, 1) := by decide +kernel
theorem dL_law_223 : decode cL_law 223 = .ok (.laload, 1) := by decide +kernel
theorem dL_law_224 : decode cL_law 224 = .ok (.iload 6, 2) := by decide +kernel
theorem dL_law_226 : decode cL_law 226 = .ok (.i2l, 1) := by decide +kernel
theorem dL_law_227 : decode cL_law 227 = .ok (.lcmp, 1) := by decide +kernel
theorem dL_law_228 : decode cL_law 228 = .ok (.ifCond .eq 5, 3) := by decide +kernel
theorem dL_law_231 : decode cL_law 231 = .ok (.iconst 0, 1) := by decide +kernel
theorem dL_law_232 : decode cL_law 232 = .ok (.ireturn, 1) := by decide +kernel
theorem dL_law_233 : decode cL_law 233 = .ok (.goto 1636, 3) := by decide +kernel
theorem dL_law_236 : decode cL_law 236 = .ok (.aload_n 1, 1) := by decide +kernel
theorem dL_law_237 : decode cL_law 237 = .ok (.aload_n 0, 1) := by decide +kernel
theorem dL_law_238 : decode cL_law 238 = .ok (.iload 4, 2) := by decide +kernel
theorem dL_law_240 : decode cL_law 240 = .ok (.iconst 1, 1) := by decide +kernel
theorem dL_law_241 : decode cL_law 241 = .ok (.iadd, 1) := by decide +kernel
theorem dL_law_242 : decode cL_law 242 = .ok (.iaload, 1) := by decide +kernel
theorem dL_law_243 : decode cL_law 243 = .ok (.aload_n 3, 1) := by decide +kernel
theorem dL_law_244 : decode cL_law 244 = .ok (.invokestatic 118, 3) := by decide +kernel
theorem dL_law_247 : decode cL_law 247 = .ok (.istore 5, 2) := by decide +kernel
theorem dL_law_249 : decode cL_law 249 = .ok (.aload_n 2, 1) := by decide +kernel
theorem dL_law_250 : decode cL_law 250 = .ok (.aload_n 0, 1) := by decide +kernel
theorem dL_law_251 : decode cL_law 251 = .ok (.iload 4, 2) := by decide +kernel
theorem dL_law_253 : decode cL_law 253 = .ok (.iconst 1, 1) := by decide +kernel
theorem dL_law_254 : decode cL_law 254 = .ok (.iadd, 1) := by decide +kernel
theorem dL_law_255 : decode cL_law 255 = .ok (.iaload, 1) := by decide +kernel
theorem dL_law_256 : decode cL_law 256 = .ok (.invokevirtual 121, 3) := by decide +kernel
theorem dL_law_259 : decode cL_law 259 = .ok (.istore 6, 2) := by decide +kernel
theorem dL_law_261 : decode cL_law 261 = .ok (.aload_n 2, 1) := by decide +kernel
theorem dL_law_262 : decode cL_law 262 = .ok (.invokevirtual 115, 3) := by decide +kernel
theorem dL_law_265 : decode cL_law 265 = .ok (.iload 5, 2) := by decide +kernel
theorem dL_law_267 : decode cL_law 267 = .ok (.if_icmp .eq 5, 3) := by decide +kernel
theorem dL_law_270 : decode cL_law 270 = .ok (.iconst 0, 1) := by decide +kernel
theorem dL_law_271 : decode cL_law 271 = .ok (.ireturn, 1) := by decide +kernel
theorem dL_law_272 : decode cL_law 272 = .ok (.iload 5, 2) := by decide +kernel
theorem dL_law_274 : decode cL_law 274 = .ok (.ifCond .ne 15, 3) := by decide +kernel
theorem dL_law_277 : decode cL_law 277 = .ok (.aload_n 3, 1) := by decide +kernel
theorem dL_law_278 : decode cL_law 278 = .ok (.iconst 0, 1) := by decide +kernel
theorem dL_law_279 : decode cL_law 279 = .ok (.laload, 1) := by decide +kernel
theorem dL_law_280 : decode cL_law 280 = .ok (.iload 6, 2) := by decide +kernel
theorem dL_law_282 : decode cL_law 282 = .ok (.i2l, 1) := by decide +kernel
theorem dL_law_283 : decode cL_law 283 = .ok (.lcmp, 1) := by decide +kernel
theorem dL_law_284 : decode cL_law 284 = .ok (.ifCond .eq 5, 3) := by decide +kernel
theorem dL_law_287 : decode cL_law 287 = .ok (.iconst 0, 1) := by decide +kernel
theorem dL_law_288 : decode cL_law 288 = .ok (.ireturn, 1) := by decide +kernel
theorem dL_law_289 : decode cL_law 289 = .ok (.goto 1580, 3) := by decide +kernel
theorem dL_law_292 : decode cL_law 292 = .ok (.aload_n 1, 1) := by decide +kernel
theorem dL_law_293 : decode cL_law 293 = .ok (.aload_n 0, 1) := by decide +kernel
theorem dL_law_294 : decode cL_law 294 = .ok (.iload 4, 2) := by decide +kernel
theorem dL_law_296 : decode cL_law 296 = .ok (.iconst 1, 1) := by decide +kernel
theorem dL_law_297 : decode cL_law 297 = .ok (.iadd, 1) := by decide +kernel
theorem dL_law_298 : decode cL_law 298 = .ok (.iaload, 1) := by decide +kernel
theorem dL_law_299 : decode cL_law 299 = .ok (.aload_n 0, 1) := by decide +kernel
theorem dL_law_300 : decode cL_law 300 = .ok (.iload 4, 2) := by decide +kernel
theorem dL_law_302 : decode cL_law 302 = .ok (.iconst 2, 1) := by decide +kernel
theorem dL_law_303 : decode cL_law 303 = .ok (.iadd, 1) := by decide +kernel
theorem dL_law_304 : decode cL_law 304 = .ok (.iaload, 1) := by decide +kernel
theorem dL_law_305 : decode cL_law 305 = .ok (.aload_n 0, 1) := by decide +kernel
theorem dL_law_306 : decode cL_law 306 = .ok (.iload 4, 2) := by decide +kernel
theorem dL_law_308 : decode cL_law 308 = .ok (.iconst 3, 1) := by decide +kernel
theorem dL_law_309 : decode cL_law 309 = .ok (.iadd, 1) := by decide +kernel
theorem dL_law_310 : decode cL_law 310 = .ok (.iaload, 1) := by decide +kernel
theorem dL_law_311 : decode cL_law 311 = .ok (.aload_n 3, 1) := by decide +kernel
theorem dL_law_312 : decode cL_law 312 = .ok (.invokestatic 122, 3) := by decide +kernel
theorem dL_law_315 : decode cL_law 315 = .ok (.istore 5, 2) := by decide +kernel
theorem dL_law_317 : decode cL_law 317 = .ok (.aload_n 2, 1) := by decide +kernel
theorem dL_law_318 : decode cL_law 318 = .ok (.aload_n 0, 1) := by decide +kernel
theorem dL_law_319 : decode cL_law 319 = .ok (.iload 4, 2) := by decide +kernel
theorem dL_law_321 : decode cL_law 321 = .ok (.iconst 1, 1) := by decide +kernel
theorem dL_law_322 : decode cL_law 322 = .ok (.iadd, 1) := by decide +kernel
theorem dL_law_323 : decode cL_law 323 = .ok (.iaload, 1) := by decide +kernel
theorem dL_law_324 : decode cL_law 324 = .ok (.aload_n 0, 1) := by decide +kernel
theorem dL_law_325 : decode cL_law 325 = .ok (.iload 4, 2) := by decide +kernel
theorem dL_law_327 : decode cL_law 327 = .ok (.iconst 2, 1) := by decide +kernel
theorem dL_law_328 : decode cL_law 328 = .ok (.iadd, 1) := by decide +kernel
theorem dL_law_329 : decode cL_law 329 = .ok (.iaload, 1) := by decide +kernel
theorem dL_law_330 : decode cL_law 330 = .ok (.aload_n 0, 1) := by decide +kernel
theorem dL_law_331 : decode cL_law 331 = .ok (.iload 4, 2) := by decide +kernel
theorem dL_law_333 : decode cL_law 333 = .ok (.iconst 3, 1) := by decide +kernel
theorem dL_law_334 : decode cL_law 334 = .ok (.iadd, 1) := by decide +kernel
theorem dL_law_335 : decode cL_law 335 = .ok (.iaload, 1) := by decide +kernel
theorem dL_law_336 : decode cL_law 336 = .ok (.invokevirtual 125, 3) := by decide +kernel
theorem dL_law_339 : decode cL_law 339 = .ok (.istore 6, 2) := by decide +kernel
theorem dL_law_341 : decode cL_law 341 = .ok (.aload_n 2, 1) := by decide +kernel
theorem dL_law_342 : decode cL_law 342 = .ok (.invokevirtual 115, 3) := by decide +kernel
theorem dL_law_345 : decode cL_law 345 = .ok (.iload 5, 2) := by decide +kernel
theorem dL_law_347 : decode cL_law 347 = .ok (.if_icmp .eq 5, 3) := by decide +kernel
theorem dL_law_350 : decode cL_law 350 = .ok (.iconst 0, 1) := by decide +kernel
theorem dL_law_351 : decode cL_law 351 = .ok (.ireturn, 1) := by decide +kernel
theorem dL_law_352 : decode cL_law 352 = .ok (.iload 5, 2) := by decide +kernel
theorem dL_law_354 : decode cL_law 354 = .ok (.ifCond .ne 22, 3) := by decide +kernel
theorem dL_law_357 : decode cL_law 357 = .ok (.aload_n 3, 1) := by decide +kernel
theorem dL_law_358 : decode cL_law 358 = .ok (.iconst 0, 1) := by decide +kernel
theorem dL_law_359 : decode cL_law 359 = .ok (.laload, 1) := by decide +kernel
theorem dL_law_360 : decode cL_law 360 = .ok (.iload 6, 2) := by decide +kernel
theorem dL_law_362 : decode cL_law 362 = .ok (.ifCond .eq 7, 3) := by decide +kernel
theorem dL_law_365 : decode cL_law 365 = .ok (.lconst 1, 1) := by decide +kernel
theorem dL_law_366 : decode cL_law 366 = .ok (.goto 4, 3) := by decide +kernel
theorem dL_law_369 : decode cL_law 369 = .ok (.lconst 0, 1) := by decide +kernel
theorem dL_law_370 : decode cL_law 370 = .ok (.lcmp, 1) := by decide +kernel
theorem dL_law_371 : decode cL_law 371 = .ok (.ifCond .eq 5, 3) := by decide +kernel
theorem dL_law_374 : decode cL_law 374 = .ok (.iconst 0, 1) := by decide +kernel
theorem dL_law_375 : decode cL_law 375 = .ok (.ireturn, 1) := by decide +kernel
theorem dL_law_376 : decode cL_law 376 = .ok (.goto 1493, 3) := by decide +kernel
theorem dL_law_379 : decode cL_law 379 = .ok (.aload_n 1, 1) := by decide +kernel
theorem dL_law_380 : decode cL_law 380 = .ok (.invokevirtual 126, 3) := by decide +kernel
theorem dL_law_383 : decode cL_law 383 = .ok (.aload_n 2, 1) := by decide +kernel
theorem dL_law_384 : decode cL_law 384 = .ok (.invokevirtual 129, 3) := by decide +kernel
theorem dL_law_387 : decode cL_law 387 = .ok (.if_icmp .eq 1482, 3) := by decide +kernel
theorem dL_law_390 : decode cL_law 390 = .ok (.iconst 0, 1) := by decide +kernel
theorem dL_law_391 : decode cL_law 391 = .ok (.ireturn, 1) := by decide +kernel
theorem dL_law_392 : decode cL_law 392 = .ok (.aload_n 1, 1) := by decide +kernel
theorem dL_law_393 : decode cL_law 393 = .ok (.aload_n 0, 1) := by decide +kernel
theorem dL_law_394 : decode cL_law 394 = .ok (.iload 4, 2) := by decide +kernel
theorem dL_law_396 : decode cL_law 396 = .ok (.iconst 1, 1) := by decide +kernel
theorem dL_law_397 : decode cL_law 397 = .ok (.iadd, 1) := by decide +kernel
theorem dL_law_398 : decode cL_law 398 = .ok (.iaload, 1) := by decide +kernel
theorem dL_law_399 : decode cL_law 399 = .ok (.aload_n 3, 1) := by decide +kernel
theorem dL_law_400 : decode cL_law 400 = .ok (.invokestatic 130, 3) := by decide +kernel
theorem dL_law_403 : decode cL_law 403 = .ok (.istore 5, 2) := by decide +kernel
theorem dL_law_405 : decode cL_law 405 = .ok (.aload_n 2, 1) := by decide +kernel
theorem dL_law_406 : decode cL_law 406 = .ok (.aload_n 0, 1) := by decide +kernel
theorem dL_law_407 : decode cL_law 407 = .ok (.iload 4, 2) := by decide +kernel
theorem dL_law_409 : decode cL_law 409 = .ok (.iconst 1, 1) := by decide +kernel
theorem dL_law_410 : decode cL_law 410 = .ok (.iadd, 1) := by decide +kernel
theorem dL_law_411 : decode cL_law 411 = .ok (.iaload, 1) := by decide +kernel
theorem dL_law_412 : decode cL_law 412 = .ok (.invokevirtual 132, 3) := by decide +kernel
theorem dL_law_415 : decode cL_law 415 = .ok (.istore 6, 2) := by decide +kernel
theorem dL_law_417 : decode cL_law 417 = .ok (.aload_n 2, 1) := by decide +kernel
theorem dL_law_418 : decode cL_law 418 = .ok (.invokevirtual 115, 3) := by decide +kernel
theorem dL_law_421 : decode cL_law 421 = .ok (.iload 5, 2) := by decide +kernel
theorem dL_law_423 : decode cL_law 423 = .ok (.if_icmp .eq 5, 3) := by decide +kernel
theorem dL_law_426 : decode cL_law 426 = .ok (.iconst 0, 1) := by decide +kernel
theorem dL_law_427 : decode cL_law 427 = .ok (.ireturn, 1) := by decide +kernel
theorem dL_law_428 : decode cL_law 428 = .ok (.iload 5, 2) := by decide +kernel
theorem dL_law_430 : decode cL_law 430 = .ok (.ifCond .ne 15, 3) := by decide +kernel
theorem dL_law_433 : decode cL_law 433 = .ok (.aload_n 3, 1) := by decide +kernel
theorem dL_law_434 : decode cL_law 434 = .ok (.iconst 0, 1) := by decide +kernel
theorem dL_law_435 : decode cL_law 435 = .ok (.laload, 1) := by decide +kernel
theorem dL_law_436 : decode cL_law 436 = .ok (.iload 6, 2) := by decide +kernel
theorem dL_law_438 : decode cL_law 438 = .ok (.i2l, 1) := by decide +kernel
theorem dL_law_439 : decode cL_law 439 = .ok (.lcmp, 1) := by decide +kernel
theorem dL_law_440 : decode cL_law 440 = .ok (.ifCond .eq 5, 3) := by decide +kernel
theorem dL_law_443 : decode cL_law 443 = .ok (.iconst 0, 1) := by decide +kernel
theorem dL_law_444 : decode cL_law 444 = .ok (.ireturn, 1) := by decide +kernel
theorem dL_law_445 : decode cL_law 445 = .ok (.goto 1424, 3) := by decide +kernel
theorem dL_law_448 : decode cL_law 448 = .ok (.aload_n 1, 1) := by decide +kernel
theorem dL_law_449 : decode cL_law 449 = .ok (.aload_n 0, 1) := by decide +kernel
theorem dL_law_450 : decode cL_law 450 = .ok (.iload 4, 2) := by decide +kernel
theorem dL_law_452 : decode cL_law 452 = .ok (.iconst 1, 1) := by decide +kernel
theorem dL_law_453 : decode cL_law 453 = .ok (.iadd, 1) := by decide +kernel
theorem dL_law_454 : decode cL_law 454 = .ok (.iaload, 1) := by decide +kernel
theorem dL_law_455 : decode cL_law 455 = .ok (.aload_n 3, 1) := by decide +kernel
theorem dL_law_456 : decode cL_law 456 = .ok (.invokestatic 133, 3) := by decide +kernel
theorem dL_law_459 : decode cL_law 459 = .ok (.istore 5, 2) := by decide +kernel
theorem dL_law_461 : decode cL_law 461 = .ok (.aload_n 2, 1) := by decide +kernel
theorem dL_law_462 : decode cL_law 462 = .ok (.aload_n 0, 1) := by decide +kernel
theorem dL_law_463 : decode cL_law 463 = .ok (.iload 4, 2) := by decide +kernel
theorem dL_law_465 : decode cL_law 465 = .ok (.iconst 1, 1) := by decide +kernel
theorem dL_law_466 : decode cL_law 466 = .ok (.iadd, 1) := by decide +kernel
theorem dL_law_467 : decode cL_law 467 = .ok (.iaload, 1) := by decide +kernel
theorem dL_law_468 : decode cL_law 468 = .ok (.invokevirtual 135, 3) := by decide +kernel
theorem dL_law_471 : decode cL_law 471 = .ok (.istore 6, 2) := by decide +kernel
theorem dL_law_473 : decode cL_law 473 = .ok (.aload_n 2, 1) := by decide +kernel
theorem dL_law_474 : decode cL_law 474 = .ok (.invokevirtual 115, 3) := by decide +kernel
theorem dL_law_477 : decode cL_law 477 = .ok (.iload 5, 2) := by decide +kernel
theorem dL_law_479 : decode cL_law 479 = .ok (.if_icmp .eq 5, 3) := by decide +kernel
theorem dL_law_482 : decode cL_law 482 = .ok (.iconst 0, 1) := by decide +kernel
theorem dL_law_483 : decode cL_law 483 = .ok (.ireturn, 1) := by decide +kernel
theorem dL_law_484 : decode cL_law 484 = .ok (.iload 5, 2) := by decide +kernel
theorem dL_law_486 : decode cL_law 486 = .ok (.ifCond .ne 15, 3) := by decide +kernel
theorem dL_law_489 : decode cL_law 489 = .ok (.aload_n 3, 1) := by decide +kernel
theorem dL_law_490 : decode cL_law 490 = .ok (.iconst 0, 1) := by decide +kernel
theorem dL_law_491 : decode cL_law 491 = .ok (.laload, 1) := by decide +kernel
theorem dL_law_492 : decode cL_law 492 = .ok (.iload 6, 2) := by decide +kernel
theorem dL_law_494 : decode cL_law 494 = .ok (.i2l, 1) := by decide +kernel
theorem dL_law_495 : decode cL_law 495 = .ok (.lcmp, 1) := by decide +kernel
theorem dL_law_496 : decode cL_law 496 = .ok (.ifCond .eq 5, 3) := by decide +kernel
theorem dL_law_499 : decode cL_law 499 = .ok (.iconst 0, 1) := by decide +kernel
theorem dL_law_500 : decode cL_law 500 = .ok (.ireturn, 1) := by decide +kernel
theorem dL_law_501 : decode cL_law 501 = .ok (.goto 1368, 3) := by decide +kernel
theorem dL_law_504 : decode cL_law 504 = .ok (.aload_n 1, 1) := by decide +kernel
theorem dL_law_505 : decode cL_law 505 = .ok (.aload_n 0, 1) := by decide +kernel
theorem dL_law_506 : decode cL_law 506 = .ok (.iload 4, 2) := by decide +kernel
theorem dL_law_508 : decode cL_law 508 = .ok (.iconst 1, 1) := by decide +kernel
theorem dL_law_509 : decode cL_law 509 = .ok (.iadd, 1) := by decide +kernel
theorem dL_law_510 : decode cL_law 510 = .ok (.iaload, 1) := by decide +kernel
theorem dL_law_511 : decode cL_law 511 = .ok (.aload_n 0, 1) := by decide +kernel
theorem dL_law_512 : decode cL_law 512 = .ok (.iload 4, 2) := by decide +kernel
theorem dL_law_514 : decode cL_law 514 = .ok (.iconst 2, 1) := by decide +kernel
theorem dL_law_515 : decode cL_law 515 = .ok (.iadd, 1) := by decide +kernel
theorem dL_law_516 : decode cL_law 516 = .ok (.iaload, 1) := by decide +kernel
theorem dL_law_517 : decode cL_law 517 = .ok (.aload_n 0, 1) := by decide +kernel
theorem dL_law_518 : decode cL_law 518 = .ok (.iload 4, 2) := by decide +kernel
theorem dL_law_520 : decode cL_law 520 = .ok (.iconst 3, 1) := by decide +kernel
theorem dL_law_521 : decode cL_law 521 = .ok (.iadd, 1) := by decide +kernel
theorem dL_law_522 : decode cL_law 522 = .ok (.iaload, 1) := by decide +kernel
theorem dL_law_523 : decode cL_law 523 = .ok (.aload_n 3, 1) := by decide +kernel
theorem dL_law_524 : decode cL_law 524 = .ok (.invokestatic 136, 3) := by decide +kernel
theorem dL_law_527 : decode cL_law 527 = .ok (.istore 5, 2) := by decide +kernel
theorem dL_law_529 : decode cL_law 529 = .ok (.aload_n 2, 1) := by decide +kernel
theorem dL_law_530 : decode cL_law 530 = .ok (.aload_n 0, 1) := by decide +kernel
theorem dL_law_531 : decode cL_law 531 = .ok (.iload 4, 2) := by decide +kernel
theorem dL_law_533 : decode cL_law 533 = .ok (.iconst 1, 1) := by decide +kernel
theorem dL_law_534 : decode cL_law 534 = .ok (.iadd, 1) := by decide +kernel
theorem dL_law_535 : decode cL_law 535 = .ok (.iaload, 1) := by decide +kernel
theorem dL_law_536 : decode cL_law 536 = .ok (.aload_n 0, 1) := by decide +kernel
theorem dL_law_537 : decode cL_law 537 = .ok (.iload 4, 2) := by decide +kernel
theorem dL_law_539 : decode cL_law 539 = .ok (.iconst 2, 1) := by decide +kernel
theorem dL_law_540 : decode cL_law 540 = .ok (.iadd, 1) := by decide +kernel
theorem dL_law_541 : decode cL_law 541 = .ok (.iaload, 1) := by decide +kernel
theorem dL_law_542 : decode cL_law 542 = .ok (.aload_n 0, 1) := by decide +kernel
theorem dL_law_543 : decode cL_law 543 = .ok (.iload 4, 2) := by decide +kernel
theorem dL_law_545 : decode cL_law 545 = .ok (.iconst 3, 1) := by decide +kernel
theorem dL_law_546 : decode cL_law 546 = .ok (.iadd, 1) := by decide +kernel
theorem dL_law_547 : decode cL_law 547 = .ok (.iaload, 1) := by decide +kernel
theorem dL_law_548 : decode cL_law 548 = .ok (.invokevirtual 138, 3) := by decide +kernel
theorem dL_law_551 : decode cL_law 551 = .ok (.istore 6, 2) := by decide +kernel
theorem dL_law_553 : decode cL_law 553 = .ok (.aload_n 2, 1) := by decide +kernel
theorem dL_law_554 : decode cL_law 554 = .ok (.invokevirtual 115, 3) := by decide +kernel
theorem dL_law_557 : decode cL_law 557 = .ok (.iload 5, 2) := by decide +kernel
theorem dL_law_559 : decode cL_law 559 = .ok (.if_icmp .eq 5, 3) := by decide +kernel
theorem dL_law_562 : decode cL_law 562 = .ok (.iconst 0, 1) := by decide +kernel
theorem dL_law_563 : decode cL_law 563 = .ok (.ireturn, 1) := by decide +kernel
theorem dL_law_564 : decode cL_law 564 = .ok (.iload 5, 2) := by decide +kernel
theorem dL_law_566 : decode cL_law 566 = .ok (.ifCond .ne 15, 3) := by decide +kernel
theorem dL_law_569 : decode cL_law 569 = .ok (.aload_n 3, 1) := by decide +kernel
theorem dL_law_570 : decode cL_law 570 = .ok (.iconst 0, 1) := by decide +kernel
theorem dL_law_571 : decode cL_law 571 = .ok (.laload, 1) := by decide +kernel
theorem dL_law_572 : decode cL_law 572 = .ok (.iload 6, 2) := by decide +kernel
theorem dL_law_574 : decode cL_law 574 = .ok (.i2l, 1) := by decide +kernel
theorem dL_law_575 : decode cL_law 575 = .ok (.lcmp, 1) := by decide +kernel
theorem dL_law_576 : decode cL_law 576 = .ok (.ifCond .eq 5, 3) := by decide +kernel
theorem dL_law_579 : decode cL_law 579 = .ok (.iconst 0, 1) := by decide +kernel
theorem dL_law_580 : decode cL_law 580 = .ok (.ireturn, 1) := by decide +kernel
theorem dL_law_581 : decode cL_law 581 = .ok (.goto 1288, 3) := by decide +kernel
theorem dL_law_584 : decode cL_law 584 = .ok (.aload_n 1, 1) := by decide +kernel
theorem dL_law_585 : decode cL_law 585 = .ok (.aload_n 0, 1) := by decide +kernel
theorem dL_law_586 : decode cL_law 586 = .ok (.iload 4, 2) := by decide +kernel
theorem dL_law_588 : decode cL_law 588 = .ok (.iconst 1, 1) := by decide +kernel
theorem dL_law_589 : decode cL_law 589 = .ok (.iadd, 1) := by decide +kernel
theorem dL_law_590 : decode cL_law 590 = .ok (.iaload, 1) := by decide +kernel
theorem dL_law_591 : decode cL_law 591 = .ok (.aload_n 0, 1) := by decide +kernel
theorem dL_law_592 : decode cL_law 592 = .ok (.iload 4, 2) := by decide +kernel
theorem dL_law_594 : decode cL_law 594 = .ok (.iconst 2, 1) := by decide +kernel
theorem dL_law_595 : decode cL_law 595 = .ok (.iadd, 1) := by decide +kernel
theorem dL_law_596 : decode cL_law 596 = .ok (.iaload, 1) := by decide +kernel
theorem dL_law_597 : decode cL_law 597 = .ok (.aload_n 3, 1) := by decide +kernel
theorem dL_law_598 : decode cL_law 598 = .ok (.invokestatic 139, 3) := by decide +kernel
theorem dL_law_601 : decode cL_law 601 = .ok (.istore 5, 2) := by decide +kernel
theorem dL_law_603 : decode cL_law 603 = .ok (.aload_n 2, 1) := by decide +kernel
theorem dL_law_604 : decode cL_law 604 = .ok (.aload_n 0, 1) := by decide +kernel
theorem dL_law_605 : decode cL_law 605 = .ok (.iload 4, 2) := by decide +kernel
theorem dL_law_607 : decode cL_law 607 = .ok (.iconst 1, 1) := by decide +kernel
theorem dL_law_608 : decode cL_law 608 = .ok (.iadd, 1) := by decide +kernel
theorem dL_law_609 : decode cL_law 609 = .ok (.iaload, 1) := by decide +kernel
theorem dL_law_610 : decode cL_law 610 = .ok (.aload_n 0, 1) := by decide +kernel
theorem dL_law_611 : decode cL_law 611 = .ok (.iload 4, 2) := by decide +kernel
theorem dL_law_613 : decode cL_law 613 = .ok (.iconst 2, 1) := by decide +kernel
theorem dL_law_614 : decode cL_law 614 = .ok (.iadd, 1) := by decide +kernel
theorem dL_law_615 : decode cL_law 615 = .ok (.iaload, 1) := by decide +kernel
theorem dL_law_616 : decode cL_law 616 = .ok (.invokevirtual 142, 3) := by decide +kernel
theorem dL_law_619 : decode cL_law 619 = .ok (.istore 6, 2) := by decide +kernel
theorem dL_law_621 : decode cL_law 621 = .ok (.aload_n 2, 1) := by decide +kernel
theorem dL_law_622 : decode cL_law 622 = .ok (.invokevirtual 115, 3) := by decide +kernel
theorem dL_law_625 : decode cL_law 625 = .ok (.iload 5, 2) := by decide +kernel
theorem dL_law_627 : decode cL_law 627 = .ok (.if_icmp .eq 5, 3) := by decide +kernel
theorem dL_law_630 : decode cL_law 630 = .ok (.iconst 0, 1) := by decide +kernel
theorem dL_law_631 : decode cL_law 631 = .ok (.ireturn, 1) := by decide +kernel
theorem dL_law_632 : decode cL_law 632 = .ok (.iload 5, 2) := by decide +kernel
theorem dL_law_634 : decode cL_law 634 = .ok (.ifCond .ne 15, 3) := by decide +kernel
theorem dL_law_637 : decode cL_law 637 = .ok (.aload_n 3, 1) := by decide +kernel
theorem dL_law_638 : decode cL_law 638 = .ok (.iconst 0, 1) := by decide +kernel
theorem dL_law_639 : decode cL_law 639 = .ok (.laload, 1) := by decide +kernel
theorem dL_law_640 : decode cL_law 640 = .ok (.iload 6, 2) := by decide +kernel
theorem dL_law_642 : decode cL_law 642 = .ok (.i2l, 1) := by decide +kernel
theorem dL_law_643 : decode cL_law 643 = .ok (.lcmp, 1) := by decide +kernel
theorem dL_law_644 : decode cL_law 644 = .ok (.ifCond .eq 5, 3) := by decide +kernel
theorem dL_law_647 : decode cL_law 647 = .ok (.iconst 0, 1) := by decide +kernel
theorem dL_law_648 : decode cL_law 648 = .ok (.ireturn, 1) := by decide +kernel
theorem dL_law_649 : decode cL_law 649 = .ok (.goto 1220, 3) := by decide +kernel
theorem dL_law_652 : decode cL_law 652 = .ok (.aload_n 1, 1) := by decide +kernel
theorem dL_law_653 : decode cL_law 653 = .ok (.aload_n 3, 1) := by decide +kernel
theorem dL_law_654 : decode cL_law 654 = .ok (.invokestatic 143, 3) := by decide +kernel
theorem dL_law_657 : decode cL_law 657 = .ok (.istore 5, 2) := by decide +kernel
theorem dL_law_659 : decode cL_law 659 = .ok (.aload_n 2, 1) := by decide +kernel
theorem dL_law_660 : decode cL_law 660 = .ok (.invokevirtual 145, 3) := by decide +kernel
theorem dL_law_663 : decode cL_law 663 = .ok (.istore 6, 2) := by decide +kernel
theorem dL_law_665 : decode cL_law 665 = .ok (.aload_n 2, 1) := by decide +kernel
theorem dL_law_666 : decode cL_law 666 = .ok (.invokevirtual 115, 3) := by decide +kernel
theorem dL_law_669 : decode cL_law 669 = .ok (.iload 5, 2) := by decide +kernel
theorem dL_law_671 : decode cL_law 671 = .ok (.if_icmp .eq 5, 3) := by decide +kernel
theorem dL_law_674 : decode cL_law 674 = .ok (.iconst 0, 1) := by decide +kernel
theorem dL_law_675 : decode cL_law 675 = .ok (.ireturn, 1) := by decide +kernel
theorem dL_law_676 : decode cL_law 676 = .ok (.iload 5, 2) := by decide +kernel
theorem dL_law_678 : decode cL_law 678 = .ok (.ifCond .ne 15, 3) := by decide +kernel
theorem dL_law_681 : decode cL_law 681 = .ok (.aload_n 3, 1) := by decide +kernel
theorem dL_law_682 : decode cL_law 682 = .ok (.iconst 0, 1) := by decide +kernel
theorem dL_law_683 : decode cL_law 683 = .ok (.laload, 1) := by decide +kernel
theorem dL_law_684 : decode cL_law 684 = .ok (.iload 6, 2) := by decide +kernel
theorem dL_law_686 : decode cL_law 686 = .ok (.i2l, 1) := by decide +kernel
theorem dL_law_687 : decode cL_law 687 = .ok (.lcmp, 1) := by decide +kernel
theorem dL_law_688 : decode cL_law 688 = .ok (.ifCond .eq 5, 3) := by decide +kernel
theorem dL_law_691 : decode cL_law 691 = .ok (.iconst 0, 1) := by decide +kernel
theorem dL_law_692 : decode cL_law 692 = .ok (.ireturn, 1) := by decide +kernel
theorem dL_law_693 : decode cL_law 693 = .ok (.goto 1176, 3) := by decide +kernel
theorem dL_law_696 : decode cL_law 696 = .ok (.aload_n 1, 1) := by decide +kernel
theorem dL_law_697 : decode cL_law 697 = .ok (.aload_n 0, 1) := by decide +kernel
theorem dL_law_698 : decode cL_law 698 = .ok (.iload 4, 2) := by decide +kernel
theorem dL_law_700 : decode cL_law 700 = .ok (.iconst 1, 1) := by decide +kernel
theorem dL_law_701 : decode cL_law 701 = .ok (.iadd, 1) := by decide +kernel
theorem dL_law_702 : decode cL_law 702 = .ok (.iaload, 1) := by decide +kernel
theorem dL_law_703 : decode cL_law 703 = .ok (.aload_n 0, 1) := by decide +kernel
theorem dL_law_704 : decode cL_law 704 = .ok (.iload 4, 2) := by decide +kernel
theorem dL_law_706 : decode cL_law 706 = .ok (.iconst 2, 1) := by decide +kernel
theorem dL_law_707 : decode cL_law 707 = .ok (.iadd, 1) := by decide +kernel
theorem dL_law_708 : decode cL_law 708 = .ok (.iaload, 1) := by decide +kernel
theorem dL_law_709 : decode cL_law 709 = .ok (.ifCond .eq 7, 3) := by decide +kernel
theorem dL_law_712 : decode cL_law 712 = .ok (.iconst 1, 1) := by decide +kernel
theorem dL_law_713 : decode cL_law 713 = .ok (.goto 4, 3) := by decide +kernel
theorem dL_law_716 : decode cL_law 716 = .ok (.iconst 0, 1) := by decide +kernel
theorem dL_law_717 : decode cL_law 717 = .ok (.aload_n 0, 1) := by decide +kernel
theorem dL_law_718 : decode cL_law 718 = .ok (.iload 4, 2) := by decide +kernel
theorem dL_law_720 : decode cL_law 720 = .ok (.iconst 3, 1) := by decide +kernel
theorem dL_law_721 : decode cL_law 721 = .ok (.iadd, 1) := by decide +kernel
theorem dL_law_722 : decode cL_law 722 = .ok (.iaload, 1) := by decide +kernel
theorem dL_law_723 : decode cL_law 723 = .ok (.aload_n 3, 1) := by decide +kernel
theorem dL_law_724 : decode cL_law 724 = .ok (.invokestatic 146, 3) := by decide +kernel
theorem dL_law_727 : decode cL_law 727 = .ok (.istore 5, 2) := by decide +kernel
theorem dL_law_729 : decode cL_law 729 = .ok (.aload_n 2, 1) := by decide +kernel
theorem dL_law_730 : decode cL_law 730 = .ok (.aload_n 0, 1) := by decide +kernel
theorem dL_law_731 : decode cL_law 731 = .ok (.iload 4, 2) := by decide +kernel
theorem dL_law_733 : decode cL_law 733 = .ok (.iconst 1, 1) := by decide +kernel
theorem dL_law_734 : decode cL_law 734 = .ok (.iadd, 1) := by decide +kernel
theorem dL_law_735 : decode cL_law 735 = .ok (.iaload, 1) := by decide +kernel
theorem dL_law_736 : decode cL_law 736 = .ok (.aload_n 0, 1) := by decide +kernel
theorem dL_law_737 : decode cL_law 737 = .ok (.iload 4, 2) := by decide +kernel
theorem dL_law_739 : decode cL_law 739 = .ok (.iconst 2, 1) := by decide +kernel
theorem dL_law_740 : decode cL_law 740 = .ok (.iadd, 1) := by decide +kernel
theorem dL_law_741 : decode cL_law 741 = .ok (.iaload, 1) := by decide +kernel
theorem dL_law_742 : decode cL_law 742 = .ok (.ifCond .eq 7, 3) := by decide +kernel
theorem dL_law_745 : decode cL_law 745 = .ok (.iconst 1, 1) := by decide +kernel
theorem dL_law_746 : decode cL_law 746 = .ok (.goto 4, 3) := by decide +kernel
theorem dL_law_749 : decode cL_law 749 = .ok (.iconst 0, 1) := by decide +kernel
theorem dL_law_750 : decode cL_law 750 = .ok (.aload_n 0, 1) := by decide +kernel
theorem dL_law_751 : decode cL_law 751 = .ok (.iload 4, 2) := by decide +kernel
theorem dL_law_753 : decode cL_law 753 = .ok (.iconst 3, 1) := by decide +kernel
theorem dL_law_754 : decode cL_law 754 = .ok (.iadd, 1) := by decide +kernel
theorem dL_law_755 : decode cL_law 755 = .ok (.iaload, 1) := by decide +kernel
theorem dL_law_756 : decode cL_law 756 = .ok (.invokevirtual 149, 3) := by decide +kernel
theorem dL_law_759 : decode cL_law 759 = .ok (.istore 6, 2) := by decide +kernel
theorem dL_law_761 : decode cL_law 761 = .ok (.aload_n 2, 1) := by decide +kernel
theorem dL_law_762 : decode cL_law 762 = .ok (.invokevirtual 115, 3) := by decide +kernel
theorem dL_law_765 : decode cL_law 765 = .ok (.iload 5, 2) := by decide +kernel
theorem dL_law_767 : decode cL_law 767 = .ok (.if_icmp .eq 5, 3) := by decide +kernel
theorem dL_law_770 : decode cL_law 770 = .ok (.iconst 0, 1) := by decide +kernel
theorem dL_law_771 : decode cL_law 771 = .ok (.ireturn, 1) := by decide +kernel
theorem dL_law_772 : decode cL_law 772 = .ok (.iload 5, 2) := by decide +kernel
theorem dL_law_774 : decode cL_law 774 = .ok (.ifCond .ne 15, 3) := by decide +kernel
theorem dL_law_777 : decode cL_law 777 = .ok (.aload_n 3, 1) := by decide +kernel
theorem dL_law_778 : decode cL_law 778 = .ok (.iconst 0, 1) := by decide +kernel
theorem dL_law_779 : decode cL_law 779 = .ok (.laload, 1) := by decide +kernel
theorem dL_law_780 : decode cL_law 780 = .ok (.iload 6, 2) := by decide +kernel
theorem dL_law_782 : decode cL_law 782 = .ok (.i2l, 1) := by decide +kernel
theorem dL_law_783 : decode cL_law 783 = .ok (.lcmp, 1) := by decide +kernel
theorem dL_law_784 : decode cL_law 784 = .ok (.ifCond .eq 5, 3) := by decide +kernel
theorem dL_law_787 : decode cL_law 787 = .ok (.iconst 0, 1) := by decide +kernel
theorem dL_law_788 : decode cL_law 788 = .ok (.ireturn, 1) := by decide +kernel
theorem dL_law_789 : decode cL_law 789 = .ok (.goto 1080, 3) := by decide +kernel
theorem dL_law_792 : decode cL_law 792 = .ok (.aload_n 1, 1) := by decide +kernel
theorem dL_law_793 : decode cL_law 793 = .ok (.aload_n 0, 1) := by decide +kernel
theorem dL_law_794 : decode cL_law 794 = .ok (.iload 4, 2) := by decide +kernel
theorem dL_law_796 : decode cL_law 796 = .ok (.iconst 1, 1) := by decide +kernel
theorem dL_law_797 : decode cL_law 797 = .ok (.iadd, 1) := by decide +kernel
theorem dL_law_798 : decode cL_law 798 = .ok (.iaload, 1) := by decide +kernel
theorem dL_law_799 : decode cL_law 799 = .ok (.aload_n 0, 1) := by decide +kernel
theorem dL_law_800 : decode cL_law 800 = .ok (.iload 4, 2) := by decide +kernel
theorem dL_law_802 : decode cL_law 802 = .ok (.iconst 2, 1) := by decide +kernel
theorem dL_law_803 : decode cL_law 803 = .ok (.iadd, 1) := by decide +kernel
theorem dL_law_804 : decode cL_law 804 = .ok (.iaload, 1) := by decide +kernel
theorem dL_law_805 : decode cL_law 805 = .ok (.aload_n 3, 1) := by decide +kernel
theorem dL_law_806 : decode cL_law 806 = .ok (.invokestatic 150, 3) := by decide +kernel
theorem dL_law_809 : decode cL_law 809 = .ok (.istore 5, 2) := by decide +kernel
theorem dL_law_811 : decode cL_law 811 = .ok (.aload_n 2, 1) := by decide +kernel
theorem dL_law_812 : decode cL_law 812 = .ok (.aload_n 0, 1) := by decide +kernel
theorem dL_law_813 : decode cL_law 813 = .ok (.iload 4, 2) := by decide +kernel
theorem dL_law_815 : decode cL_law 815 = .ok (.iconst 1, 1) := by decide +kernel
theorem dL_law_816 : decode cL_law 816 = .ok (.iadd, 1) := by decide +kernel
theorem dL_law_817 : decode cL_law 817 = .ok (.iaload, 1) := by decide +kernel
theorem dL_law_818 : decode cL_law 818 = .ok (.aload_n 0, 1) := by decide +kernel
theorem dL_law_819 : decode cL_law 819 = .ok (.iload 4, 2) := by decide +kernel
theorem dL_law_821 : decode cL_law 821 = .ok (.iconst 2, 1) := by decide +kernel
theorem dL_law_822 : decode cL_law 822 = .ok (.iadd, 1) := by decide +kernel
theorem dL_law_823 : decode cL_law 823 = .ok (.iaload, 1) := by decide +kernel
theorem dL_law_824 : decode cL_law 824 = .ok (.invokevirtual 152, 3) := by decide +kernel
theorem dL_law_827 : decode cL_law 827 = .ok (.istore 6, 2) := by decide +kernel
theorem dL_law_829 : decode cL_law 829 = .ok (.aload_n 2, 1) := by decide +kernel
theorem dL_law_830 : decode cL_law 830 = .ok (.invokevirtual 115, 3) := by decide +kernel
theorem dL_law_833 : decode cL_law 833 = .ok (.iload 5, 2) := by decide +kernel
theorem dL_law_835 : decode cL_law 835 = .ok (.if_icmp .eq 5, 3) := by decide +kernel
theorem dL_law_838 : decode cL_law 838 = .ok (.iconst 0, 1) := by decide +kernel
theorem dL_law_839 : decode cL_law 839 = .ok (.ireturn, 1) := by decide +kernel
theorem dL_law_840 : decode cL_law 840 = .ok (.iload 5, 2) := by decide +kernel
theorem dL_law_842 : decode cL_law 842 = .ok (.ifCond .ne 15, 3) := by decide +kernel
theorem dL_law_845 : decode cL_law 845 = .ok (.aload_n 3, 1) := by decide +kernel
theorem dL_law_846 : decode cL_law 846 = .ok (.iconst 0, 1) := by decide +kernel
theorem dL_law_847 : decode cL_law 847 = .ok (.laload, 1) := by decide +kernel
theorem dL_law_848 : decode cL_law 848 = .ok (.iload 6, 2) := by decide +kernel
theorem dL_law_850 : decode cL_law 850 = .ok (.i2l, 1) := by decide +kernel
theorem dL_law_851 : decode cL_law 851 = .ok (.lcmp, 1) := by decide +kernel
theorem dL_law_852 : decode cL_law 852 = .ok (.ifCond .eq 5, 3) := by decide +kernel
theorem dL_law_855 : decode cL_law 855 = .ok (.iconst 0, 1) := by decide +kernel
theorem dL_law_856 : decode cL_law 856 = .ok (.ireturn, 1) := by decide +kernel
theorem dL_law_857 : decode cL_law 857 = .ok (.goto 1012, 3) := by decide +kernel
theorem dL_law_860 : decode cL_law 860 = .ok (.aload_n 1, 1) := by decide +kernel
theorem dL_law_861 : decode cL_law 861 = .ok (.aload_n 3, 1) := by decide +kernel
theorem dL_law_862 : decode cL_law 862 = .ok (.invokestatic 153, 3) := by decide +kernel
theorem dL_law_865 : decode cL_law 865 = .ok (.istore 5, 2) := by decide +kernel
theorem dL_law_867 : decode cL_law 867 = .ok (.aload_n 2, 1) := by decide +kernel
theorem dL_law_868 : decode cL_law 868 = .ok (.invokevirtual 155, 3) := by decide +kernel
theorem dL_law_871 : decode cL_law 871 = .ok (.istore 6, 2) := by decide +kernel
theorem dL_law_873 : decode cL_law 873 = .ok (.aload_n 2, 1) := by decide +kernel
theorem dL_law_874 : decode cL_law 874 = .ok (.invokevirtual 115, 3) := by decide +kernel
theorem dL_law_877 : decode cL_law 877 = .ok (.iload 5, 2) := by decide +kernel
theorem dL_law_879 : decode cL_law 879 = .ok (.if_icmp .eq 5, 3) := by decide +kernel
theorem dL_law_882 : decode cL_law 882 = .ok (.iconst 0, 1) := by decide +kernel
theorem dL_law_883 : decode cL_law 883 = .ok (.ireturn, 1) := by decide +kernel
theorem dL_law_884 : decode cL_law 884 = .ok (.iload 5, 2) := by decide +kernel
theorem dL_law_886 : decode cL_law 886 = .ok (.ifCond .ne 15, 3) := by decide +kernel
theorem dL_law_889 : decode cL_law 889 = .ok (.aload_n 3, 1) := by decide +kernel
theorem dL_law_890 : decode cL_law 890 = .ok (.iconst 0, 1) := by decide +kernel
theorem dL_law_891 : decode cL_law 891 = .ok (.laload, 1) := by decide +kernel
theorem dL_law_892 : decode cL_law 892 = .ok (.iload 6, 2) := by decide +kernel
theorem dL_law_894 : decode cL_law 894 = .ok (.i2l, 1) := by decide +kernel
theorem dL_law_895 : decode cL_law 895 = .ok (.lcmp, 1) := by decide +kernel
theorem dL_law_896 : decode cL_law 896 = .ok (.ifCond .eq 5, 3) := by decide +kernel
theorem dL_law_899 : decode cL_law 899 = .ok (.iconst 0, 1) := by decide +kernel
theorem dL_law_900 : decode cL_law 900 = .ok (.ireturn, 1) := by decide +kernel
theorem dL_law_901 : decode cL_law 901 = .ok (.goto 968, 3) := by decide +kernel
theorem dL_law_904 : decode cL_law 904 = .ok (.aload_n 1, 1) := by decide +kernel
theorem dL_law_905 : decode cL_law 905 = .ok (.aload_n 0, 1) := by decide +kernel
theorem dL_law_906 : decode cL_law 906 = .ok (.iload 4, 2) := by decide +kernel
theorem dL_law_908 : decode cL_law 908 = .ok (.iconst 1, 1) := by decide +kernel
theorem dL_law_909 : decode cL_law 909 = .ok (.iadd, 1) := by decide +kernel
theorem dL_law_910 : decode cL_law 910 = .ok (.iaload, 1) := by decide +kernel
theorem dL_law_911 : decode cL_law 911 = .ok (.aload_n 0, 1) := by decide +kernel
theorem dL_law_912 : decode cL_law 912 = .ok (.iload 4, 2) := by decide +kernel
theorem dL_law_914 : decode cL_law 914 = .ok (.iconst 2, 1) := by decide +kernel
theorem dL_law_915 : decode cL_law 915 = .ok (.iadd, 1) := by decide +kernel
theorem dL_law_916 : decode cL_law 916 = .ok (.iaload, 1) := by decide +kernel
theorem dL_law_917 : decode cL_law 917 = .ok (.aload_n 3, 1) := by decide +kernel
theorem dL_law_918 : decode cL_law 918 = .ok (.invokestatic 156, 3) := by decide +kernel
theorem dL_law_921 : decode cL_law 921 = .ok (.istore 5, 2) := by decide +kernel
theorem dL_law_923 : decode cL_law 923 = .ok (.aload_n 2, 1) := by decide +kernel
theorem dL_law_924 : decode cL_law 924 = .ok (.aload_n 0, 1) := by decide +kernel
theorem dL_law_925 : decode cL_law 925 = .ok (.iload 4, 2) := by decide +kernel
theorem dL_law_927 : decode cL_law 927 = .ok (.iconst 1, 1) := by decide +kernel
theorem dL_law_928 : decode cL_law 928 = .ok (.iadd, 1) := by decide +kernel
theorem dL_law_929 : decode cL_law 929 = .ok (.iaload, 1) := by decide +kernel
theorem dL_law_930 : decode cL_law 930 = .ok (.aload_n 0, 1) := by decide +kernel
theorem dL_law_931 : decode cL_law 931 = .ok (.iload 4, 2) := by decide +kernel
theorem dL_law_933 : decode cL_law 933 = .ok (.iconst 2, 1) := by decide +kernel
theorem dL_law_934 : decode cL_law 934 = .ok (.iadd, 1) := by decide +kernel
theorem dL_law_935 : decode cL_law 935 = .ok (.iaload, 1) := by decide +kernel
theorem dL_law_936 : decode cL_law 936 = .ok (.invokevirtual 158, 3) := by decide +kernel
theorem dL_law_939 : decode cL_law 939 = .ok (.istore 6, 2) := by decide +kernel
theorem dL_law_941 : decode cL_law 941 = .ok (.aload_n 2, 1) := by decide +kernel
theorem dL_law_942 : decode cL_law 942 = .ok (.invokevirtual 115, 3) := by decide +kernel
theorem dL_law_945 : decode cL_law 945 = .ok (.iload 5, 2) := by decide +kernel
theorem dL_law_947 : decode cL_law 947 = .ok (.if_icmp .eq 5, 3) := by decide +kernel
theorem dL_law_950 : decode cL_law 950 = .ok (.iconst 0, 1) := by decide +kernel
theorem dL_law_951 : decode cL_law 951 = .ok (.ireturn, 1) := by decide +kernel
theorem dL_law_952 : decode cL_law 952 = .ok (.iload 5, 2) := by decide +kernel
theorem dL_law_954 : decode cL_law 954 = .ok (.ifCond .ne 15, 3) := by decide +kernel
theorem dL_law_957 : decode cL_law 957 = .ok (.aload_n 3, 1) := by decide +kernel
theorem dL_law_958 : decode cL_law 958 = .ok (.iconst 0, 1) := by decide +kernel
theorem dL_law_959 : decode cL_law 959 = .ok (.laload, 1) := by decide +kernel
theorem dL_law_960 : decode cL_law 960 = .ok (.iload 6, 2) := by decide +kernel
theorem dL_law_962 : decode cL_law 962 = .ok (.i2l, 1) := by decide +kernel
theorem dL_law_963 : decode cL_law 963 = .ok (.lcmp, 1) := by decide +kernel
theorem dL_law_964 : decode cL_law 964 = .ok (.ifCond .eq 5, 3) := by decide +kernel
theorem dL_law_967 : decode cL_law 967 = .ok (.iconst 0, 1) := by decide +kernel
theorem dL_law_968 : decode cL_law 968 = .ok (.ireturn, 1) := by decide +kernel
theorem dL_law_969 : decode cL_law 969 = .ok (.goto 900, 3) := by decide +kernel
theorem dL_law_972 : decode cL_law 972 = .ok (.aload_n 1, 1) := by decide +kernel
theorem dL_law_973 : decode cL_law 973 = .ok (.invokevirtual 159, 3) := by decide +kernel
theorem dL_law_976 : decode cL_law 976 = .ok (.aload_n 2, 1) := by decide +kernel
theorem dL_law_977 : decode cL_law 977 = .ok (.invokevirtual 162, 3) := by decide +kernel
theorem dL_law_980 : decode cL_law 980 = .ok (.if_icmp .eq 889, 3) := by decide +kernel
theorem dL_law_983 : decode cL_law 983 = .ok (.iconst 0, 1) := by decide +kernel
theorem dL_law_984 : decode cL_law 984 = .ok (.ireturn, 1) := by decide +kernel
theorem dL_law_985 : decode cL_law 985 = .ok (.aload_n 1, 1) := by decide +kernel
theorem dL_law_986 : decode cL_law 986 = .ok (.invokevirtual 163, 3) := by decide +kernel
theorem dL_law_989 : decode cL_law 989 = .ok (.aload_n 2, 1) := by decide +kernel
theorem dL_law_990 : decode cL_law 990 = .ok (.invokevirtual 167, 3) := by decide +kernel
theorem dL_law_993 : decode cL_law 993 = .ok (.if_icmp .eq 876, 3) := by decide +kernel
theorem dL_law_996 : decode cL_law 996 = .ok (.iconst 0, 1) := by decide +kernel
theorem dL_law_997 : decode cL_law 997 = .ok (.ireturn, 1) := by decide +kernel
theorem dL_law_998 : decode cL_law 998 = .ok (.aload_n 1, 1) := by decide +kernel
theorem dL_law_999 : decode cL_law 999 = .ok (.aload_n 0, 1) := by decide +kernel
theorem dL_law_1000 : decode cL_law 1000 = .ok (.iload 4, 2) := by decide +kernel
theorem dL_law_1002 : decode cL_law 1002 = .ok (.iconst 1, 1) := by decide +kernel
theorem dL_law_1003 : decode cL_law 1003 = .ok (.iadd, 1) := by decide +kernel
theorem dL_law_1004 : decode cL_law 1004 = .ok (.iaload, 1) := by decide +kernel
theorem dL_law_1005 : decode cL_law 1005 = .ok (.aload_n 3, 1) := by decide +kernel
theorem dL_law_1006 : decode cL_law 1006 = .ok (.invokestatic 168, 3) := by decide +kernel
theorem dL_law_1009 : decode cL_law 1009 = .ok (.istore 5, 2) := by decide +kernel
theorem dL_law_1011 : decode cL_law 1011 = .ok (.aload_n 2, 1) := by decide +kernel
theorem dL_law_1012 : decode cL_law 1012 = .ok (.aload_n 0, 1) := by decide +kernel
theorem dL_law_1013 : decode cL_law 1013 = .ok (.iload 4, 2) := by decide +kernel
theorem dL_law_1015 : decode cL_law 1015 = .ok (.iconst 1, 1) := by decide +kernel
theorem dL_law_1016 : decode cL_law 1016 = .ok (.iadd, 1) := by decide +kernel
theorem dL_law_1017 : decode cL_law 1017 = .ok (.iaload, 1) := by decide +kernel
theorem dL_law_1018 : decode cL_law 1018 = .ok (.invokevirtual 170, 3) := by decide +kernel
theorem dL_law_1021 : decode cL_law 1021 = .ok (.istore 6, 2) := by decide +kernel
theorem dL_law_1023 : decode cL_law 1023 = .ok (.aload_n 2, 1) := by decide +kernel
theorem dL_law_1024 : decode cL_law 1024 = .ok (.invokevirtual 115, 3) := by decide +kernel
theorem dL_law_1027 : decode cL_law 1027 = .ok (.iload 5, 2) := by decide +kernel
theorem dL_law_1029 : decode cL_law 1029 = .ok (.if_icmp .eq 5, 3) := by decide +kernel
theorem dL_law_1032 : decode cL_law 1032 = .ok (.iconst 0, 1) := by decide +kernel
theorem dL_law_1033 : decode cL_law 1033 = .ok (.ireturn, 1) := by decide +kernel
theorem dL_law_1034 : decode cL_law 1034 = .ok (.iload 5, 2) := by decide +kernel
theorem dL_law_1036 : decode cL_law 1036 = .ok (.ifCond .ne 15, 3) := by decide +kernel
theorem dL_law_1039 : decode cL_law 1039 = .ok (.aload_n 3, 1) := by decide +kernel
theorem dL_law_1040 : decode cL_law 1040 = .ok (.iconst 0, 1) := by decide +kernel
theorem dL_law_1041 : decode cL_law 1041 = .ok (.laload, 1) := by decide +kernel
theorem dL_law_1042 : decode cL_law 1042 = .ok (.iload 6, 2) := by decide +kernel
theorem dL_law_1044 : decode cL_law 1044 = .ok (.i2l, 1) := by decide +kernel
theorem dL_law_1045 : decode cL_law 1045 = .ok (.lcmp, 1) := by decide +kernel
theorem dL_law_1046 : decode cL_law 1046 = .ok (.ifCond .eq 5, 3) := by decide +kernel
theorem dL_law_1049 : decode cL_law 1049 = .ok (.iconst 0, 1) := by decide +kernel
theorem dL_law_1050 : decode cL_law 1050 = .ok (.ireturn, 1) := by decide +kernel
theorem dL_law_1051 : decode cL_law 1051 = .ok (.goto 818, 3) := by decide +kernel
theorem dL_law_1054 : decode cL_law 1054 = .ok (.aload_n 1, 1) := by decide +kernel
theorem dL_law_1055 : decode cL_law 1055 = .ok (.aload_n 0, 1) := by decide +kernel
theorem dL_law_1056 : decode cL_law 1056 = .ok (.iload 4, 2) := by decide +kernel
theorem dL_law_1058 : decode cL_law 1058 = .ok (.iconst 1, 1) := by decide +kernel
theorem dL_law_1059 : decode cL_law 1059 = .ok (.iadd, 1) := by decide +kernel
theorem dL_law_1060 : decode cL_law 1060 = .ok (.iaload, 1) := by decide +kernel
theorem dL_law_1061 : decode cL_law 1061 = .ok (.aload_n 0, 1) := by decide +kernel
theorem dL_law_1062 : decode cL_law 1062 = .ok (.iload 4, 2) := by decide +kernel
theorem dL_law_1064 : decode cL_law 1064 = .ok (.iconst 2, 1) := by decide +kernel
theorem dL_law_1065 : decode cL_law 1065 = .ok (.iadd, 1) := by decide +kernel
theorem dL_law_1066 : decode cL_law 1066 = .ok (.iaload, 1) := by decide +kernel
theorem dL_law_1067 : decode cL_law 1067 = .ok (.aload_n 3, 1) := by decide +kernel
theorem dL_law_1068 : decode cL_law 1068 = .ok (.invokestatic 171, 3) := by decide +kernel
theorem dL_law_1071 : decode cL_law 1071 = .ok (.istore 5, 2) := by decide +kernel
theorem dL_law_1073 : decode cL_law 1073 = .ok (.aload_n 2, 1) := by decide +kernel
theorem dL_law_1074 : decode cL_law 1074 = .ok (.aload_n 0, 1) := by decide +kernel
theorem dL_law_1075 : decode cL_law 1075 = .ok (.iload 4, 2) := by decide +kernel
theorem dL_law_1077 : decode cL_law 1077 = .ok (.iconst 1, 1) := by decide +kernel
theorem dL_law_1078 : decode cL_law 1078 = .ok (.iadd, 1) := by decide +kernel
theorem dL_law_1079 : decode cL_law 1079 = .ok (.iaload, 1) := by decide +kernel
theorem dL_law_1080 : decode cL_law 1080 = .ok (.aload_n 0, 1) := by decide +kernel
theorem dL_law_1081 : decode cL_law 1081 = .ok (.iload 4, 2) := by decide +kernel
theorem dL_law_1083 : decode cL_law 1083 = .ok (.iconst 2, 1) := by decide +kernel
theorem dL_law_1084 : decode cL_law 1084 = .ok (.iadd, 1) := by decide +kernel
theorem dL_law_1085 : decode cL_law 1085 = .ok (.iaload, 1) := by decide +kernel
theorem dL_law_1086 : decode cL_law 1086 = .ok (.invokevirtual 173, 3) := by decide +kernel
theorem dL_law_1089 : decode cL_law 1089 = .ok (.istore 6, 2) := by decide +kernel
theorem dL_law_1091 : decode cL_law 1091 = .ok (.aload_n 2, 1) := by decide +kernel
theorem dL_law_1092 : decode cL_law 1092 = .ok (.invokevirtual 115, 3) := by decide +kernel
theorem dL_law_1095 : decode cL_law 1095 = .ok (.iload 5, 2) := by decide +kernel
theorem dL_law_1097 : decode cL_law 1097 = .ok (.if_icmp .eq 5, 3) := by decide +kernel
theorem dL_law_1100 : decode cL_law 1100 = .ok (.iconst 0, 1) := by decide +kernel
theorem dL_law_1101 : decode cL_law 1101 = .ok (.ireturn, 1) := by decide +kernel
theorem dL_law_1102 : decode cL_law 1102 = .ok (.iload 5, 2) := by decide +kernel
theorem dL_law_1104 : decode cL_law 1104 = .ok (.ifCond .ne 15, 3) := by decide +kernel
theorem dL_law_1107 : decode cL_law 1107 = .ok (.aload_n 3, 1) := by decide +kernel
theorem dL_law_1108 : decode cL_law 1108 = .ok (.iconst 0, 1) := by decide +kernel
theorem dL_law_1109 : decode cL_law 1109 = .ok (.laload, 1) := by decide +kernel
theorem dL_law_1110 : decode cL_law 1110 = .ok (.iload 6, 2) := by decide +kernel
theorem dL_law_1112 : decode cL_law 1112 = .ok (.i2l, 1) := by decide +kernel
theorem dL_law_1113 : decode cL_law 1113 = .ok (.lcmp, 1) := by decide +kernel
theorem dL_law_1114 : decode cL_law 1114 = .ok (.ifCond .eq 5, 3) := by decide +kernel
theorem dL_law_1117 : decode cL_law 1117 = .ok (.iconst 0, 1) := by decide +kernel
theorem dL_law_1118 : decode cL_law 1118 = .ok (.ireturn, 1) := by decide +kernel
theorem dL_law_1119 : decode cL_law 1119 = .ok (.goto 750, 3) := by decide +kernel
theorem dL_law_1122 : decode cL_law 1122 = .ok (.aload_n 1, 1) := by decide +kernel
theorem dL_law_1123 : decode cL_law 1123 = .ok (.aload_n 0, 1) := by decide +kernel
theorem dL_law_1124 : decode cL_law 1124 = .ok (.iload 4, 2) := by decide +kernel
theorem dL_law_1126 : decode cL_law 1126 = .ok (.iconst 1, 1) := by decide +kernel
theorem dL_law_1127 : decode cL_law 1127 = .ok (.iadd, 1) := by decide +kernel
theorem dL_law_1128 : decode cL_law 1128 = .ok (.iaload, 1) := by decide +kernel
theorem dL_law_1129 : decode cL_law 1129 = .ok (.aload_n 0, 1) := by decide +kernel
theorem dL_law_1130 : decode cL_law 1130 = .ok (.iload 4, 2) := by decide +kernel
theorem dL_law_1132 : decode cL_law 1132 = .ok (.iconst 2, 1) := by decide +kernel
theorem dL_law_1133 : decode cL_law 1133 = .ok (.iadd, 1) := by decide +kernel
theorem dL_law_1134 : decode cL_law 1134 = .ok (.iaload, 1) := by decide +kernel
theorem dL_law_1135 : decode cL_law 1135 = .ok (.aload_n 3, 1) := by decide +kernel
theorem dL_law_1136 : decode cL_law 1136 = .ok (.invokestatic 174, 3) := by decide +kernel
theorem dL_law_1139 : decode cL_law 1139 = .ok (.istore 5, 2) := by decide +kernel
theorem dL_law_1141 : decode cL_law 1141 = .ok (.aload_n 2, 1) := by decide +kernel
theorem dL_law_1142 : decode cL_law 1142 = .ok (.aload_n 0, 1) := by decide +kernel
theorem dL_law_1143 : decode cL_law 1143 = .ok (.iload 4, 2) := by decide +kernel
theorem dL_law_1145 : decode cL_law 1145 = .ok (.iconst 1, 1) := by decide +kernel
theorem dL_law_1146 : decode cL_law 1146 = .ok (.iadd, 1) := by decide +kernel
theorem dL_law_1147 : decode cL_law 1147 = .ok (.iaload, 1) := by decide +kernel
theorem dL_law_1148 : decode cL_law 1148 = .ok (.aload_n 0, 1) := by decide +kernel
theorem dL_law_1149 : decode cL_law 1149 = .ok (.iload 4, 2) := by decide +kernel
theorem dL_law_1151 : decode cL_law 1151 = .ok (.iconst 2, 1) := by decide +kernel
theorem dL_law_1152 : decode cL_law 1152 = .ok (.iadd, 1) := by decide +kernel
theorem dL_law_1153 : decode cL_law 1153 = .ok (.iaload, 1) := by decide +kernel
theorem dL_law_1154 : decode cL_law 1154 = .ok (.invokevirtual 176, 3) := by decide +kernel
theorem dL_law_1157 : decode cL_law 1157 = .ok (.istore 6, 2) := by decide +kernel
theorem dL_law_1159 : decode cL_law 1159 = .ok (.aload_n 2, 1) := by decide +kernel
theorem dL_law_1160 : decode cL_law 1160 = .ok (.invokevirtual 115, 3) := by decide +kernel
theorem dL_law_1163 : decode cL_law 1163 = .ok (.iload 5, 2) := by decide +kernel
theorem dL_law_1165 : decode cL_law 1165 = .ok (.if_icmp .eq 5, 3) := by decide +kernel
theorem dL_law_1168 : decode cL_law 1168 = .ok (.iconst 0, 1) := by decide +kernel
theorem dL_law_1169 : decode cL_law 1169 = .ok (.ireturn, 1) := by decide +kernel
theorem dL_law_1170 : decode cL_law 1170 = .ok (.iload 5, 2) := by decide +kernel
theorem dL_law_1172 : decode cL_law 1172 = .ok (.ifCond .ne 15, 3) := by decide +kernel
theorem dL_law_1175 : decode cL_law 1175 = .ok (.aload_n 3, 1) := by decide +kernel
theorem dL_law_1176 : decode cL_law 1176 = .ok (.iconst 0, 1) := by decide +kernel
theorem dL_law_1177 : decode cL_law 1177 = .ok (.laload, 1) := by decide +kernel
theorem dL_law_1178 : decode cL_law 1178 = .ok (.iload 6, 2) := by decide +kernel
theorem dL_law_1180 : decode cL_law 1180 = .ok (.i2l, 1) := by decide +kernel
theorem dL_law_1181 : decode cL_law 1181 = .ok (.lcmp, 1) := by decide +kernel
theorem dL_law_1182 : decode cL_law 1182 = .ok (.ifCond .eq 5, 3) := by decide +kernel
theorem dL_law_1185 : decode cL_law 1185 = .ok (.iconst 0, 1) := by decide +kernel
theorem dL_law_1186 : decode cL_law 1186 = .ok (.ireturn, 1) := by decide +kernel
theorem dL_law_1187 : decode cL_law 1187 = .ok (.goto 682, 3) := by decide +kernel
theorem dL_law_1190 : decode cL_law 1190 = .ok (.aload_n 1, 1) := by decide +kernel
theorem dL_law_1191 : decode cL_law 1191 = .ok (.aload_n 0, 1) := by decide +kernel
theorem dL_law_1192 : decode cL_law 1192 = .ok (.iload 4, 2) := by decide +kernel
theorem dL_law_1194 : decode cL_law 1194 = .ok (.iconst 1, 1) := by decide +kernel
theorem dL_law_1195 : decode cL_law 1195 = .ok (.iadd, 1) := by decide +kernel
theorem dL_law_1196 : decode cL_law 1196 = .ok (.iaload, 1) := by decide +kernel
theorem dL_law_1197 : decode cL_law 1197 = .ok (.aload_n 0, 1) := by decide +kernel
theorem dL_law_1198 : decode cL_law 1198 = .ok (.iload 4, 2) := by decide +kernel
theorem dL_law_1200 : decode cL_law 1200 = .ok (.iconst 2, 1) := by decide +kernel
theorem dL_law_1201 : decode cL_law 1201 = .ok (.iadd, 1) := by decide +kernel
theorem dL_law_1202 : decode cL_law 1202 = .ok (.iaload, 1) := by decide +kernel
theorem dL_law_1203 : decode cL_law 1203 = .ok (.aload_n 3, 1) := by decide +kernel
theorem dL_law_1204 : decode cL_law 1204 = .ok (.invokestatic 177, 3) := by decide +kernel
theorem dL_law_1207 : decode cL_law 1207 = .ok (.istore 5, 2) := by decide +kernel
theorem dL_law_1209 : decode cL_law 1209 = .ok (.aload_n 2, 1) := by decide +kernel
theorem dL_law_1210 : decode cL_law 1210 = .ok (.aload_n 0, 1) := by decide +kernel
theorem dL_law_1211 : decode cL_law 1211 = .ok (.iload 4, 2) := by decide +kernel
theorem dL_law_1213 : decode cL_law 1213 = .ok (.iconst 1, 1) := by decide +kernel
theorem dL_law_1214 : decode cL_law 1214 = .ok (.iadd, 1) := by decide +kernel
theorem dL_law_1215 : decode cL_law 1215 = .ok (.iaload, 1) := by decide +kernel
theorem dL_law_1216 : decode cL_law 1216 = .ok (.aload_n 0, 1) := by decide +kernel
theorem dL_law_1217 : decode cL_law 1217 = .ok (.iload 4, 2) := by decide +kernel
theorem dL_law_1219 : decode cL_law 1219 = .ok (.iconst 2, 1) := by decide +kernel
theorem dL_law_1220 : decode cL_law 1220 = .ok (.iadd, 1) := by decide +kernel
theorem dL_law_1221 : decode cL_law 1221 = .ok (.iaload, 1) := by decide +kernel
theorem dL_law_1222 : decode cL_law 1222 = .ok (.invokevirtual 179, 3) := by decide +kernel
theorem dL_law_1225 : decode cL_law 1225 = .ok (.istore 6, 2) := by decide +kernel
theorem dL_law_1227 : decode cL_law 1227 = .ok (.aload_n 2, 1) := by decide +kernel
theorem dL_law_1228 : decode cL_law 1228 = .ok (.invokevirtual 115, 3) := by decide +kernel
theorem dL_law_1231 : decode cL_law 1231 = .ok (.iload 5, 2) := by decide +kernel
theorem dL_law_1233 : decode cL_law 1233 = .ok (.if_icmp .eq 5, 3) := by decide +kernel
theorem dL_law_1236 : decode cL_law 1236 = .ok (.iconst 0, 1) := by decide +kernel
theorem dL_law_1237 : decode cL_law 1237 = .ok (.ireturn, 1) := by decide +kernel
theorem dL_law_1238 : decode cL_law 1238 = .ok (.iload 5, 2) := by decide +kernel
theorem dL_law_1240 : decode cL_law 1240 = .ok (.ifCond .ne 15, 3) := by decide +kernel
theorem dL_law_1243 : decode cL_law 1243 = .ok (.aload_n 3, 1) := by decide +kernel
theorem dL_law_1244 : decode cL_law 1244 = .ok (.iconst 0, 1) := by decide +kernel
theorem dL_law_1245 : decode cL_law 1245 = .ok (.laload, 1) := by decide +kernel
theorem dL_law_1246 : decode cL_law 1246 = .ok (.iload 6, 2) := by decide +kernel
theorem dL_law_1248 : decode cL_law 1248 = .ok (.i2l, 1) := by decide +kernel
theorem dL_law_1249 : decode cL_law 1249 = .ok (.lcmp, 1) := by decide +kernel
theorem dL_law_1250 : decode cL_law 1250 = .ok (.ifCond .eq 5, 3) := by decide +kernel
theorem dL_law_1253 : decode cL_law 1253 = .ok (.iconst 0, 1) := by decide +kernel
theorem dL_law_1254 : decode cL_law 1254 = .ok (.ireturn, 1) := by decide +kernel
theorem dL_law_1255 : decode cL_law 1255 = .ok (.goto 614, 3) := by decide +kernel
theorem dL_law_1258 : decode cL_law 1258 = .ok (.aload_n 1, 1) := by decide +kernel
theorem dL_law_1259 : decode cL_law 1259 = .ok (.aload_n 0, 1) := by decide +kernel
theorem dL_law_1260 : decode cL_law 1260 = .ok (.iload 4, 2) := by decide +kernel
theorem dL_law_1262 : decode cL_law 1262 = .ok (.iconst 1, 1) := by decide +kernel
theorem dL_law_1263 : decode cL_law 1263 = .ok (.iadd, 1) := by decide +kernel
theorem dL_law_1264 : decode cL_law 1264 = .ok (.iaload, 1) := by decide +kernel
theorem dL_law_1265 : decode cL_law 1265 = .ok (.aload_n 3, 1) := by decide +kernel
theorem dL_law_1266 : decode cL_law 1266 = .ok (.invokestatic 180, 3) := by decide +kernel
theorem dL_law_1269 : decode cL_law 1269 = .ok (.istore 5, 2) := by decide +kernel
theorem dL_law_1271 : decode cL_law 1271 = .ok (.aload_n 2, 1) := by decide +kernel
theorem dL_law_1272 : decode cL_law 1272 = .ok (.aload_n 0, 1) := by decide +kernel
theorem dL_law_1273 : decode cL_law 1273 = .ok (.iload 4, 2) := by decide +kernel
theorem dL_law_1275 : decode cL_law 1275 = .ok (.iconst 1, 1) := by decide +kernel
theorem dL_law_1276 : decode cL_law 1276 = .ok (.iadd, 1) := by decide +kernel
theorem dL_law_1277 : decode cL_law 1277 = .ok (.iaload, 1) := by decide +kernel
theorem dL_law_1278 : decode cL_law 1278 = .ok (.invokevirtual 182, 3) := by decide +kernel
theorem dL_law_1281 : decode cL_law 1281 = .ok (.istore 6, 2) := by decide +kernel
theorem dL_law_1283 : decode cL_law 1283 = .ok (.aload_n 2, 1) := by decide +kernel
theorem dL_law_1284 : decode cL_law 1284 = .ok (.invokevirtual 115, 3) := by decide +kernel
theorem dL_law_1287 : decode cL_law 1287 = .ok (.iload 5, 2) := by decide +kernel
theorem dL_law_1289 : decode cL_law 1289 = .ok (.if_icmp .eq 5, 3) := by decide +kernel
theorem dL_law_1292 : decode cL_law 1292 = .ok (.iconst 0, 1) := by decide +kernel
theorem dL_law_1293 : decode cL_law 1293 = .ok (.ireturn, 1) := by decide +kernel
theorem dL_law_1294 : decode cL_law 1294 = .ok (.iload 5, 2) := by decide +kernel
theorem dL_law_1296 : decode cL_law 1296 = .ok (.ifCond .ne 15, 3) := by decide +kernel
theorem dL_law_1299 : decode cL_law 1299 = .ok (.aload_n 3, 1) := by decide +kernel
theorem dL_law_1300 : decode cL_law 1300 = .ok (.iconst 0, 1) := by decide +kernel
theorem dL_law_1301 : decode cL_law 1301 = .ok (.laload, 1) := by decide +kernel
theorem dL_law_1302 : decode cL_law 1302 = .ok (.iload 6, 2) := by decide +kernel
theorem dL_law_1304 : decode cL_law 1304 = .ok (.i2l, 1) := by decide +kernel
theorem dL_law_1305 : decode cL_law 1305 = .ok (.lcmp, 1) := by decide +kernel
theorem dL_law_1306 : decode cL_law 1306 = .ok (.ifCond .eq 5, 3) := by decide +kernel
theorem dL_law_1309 : decode cL_law 1309 = .ok (.iconst 0, 1) := by decide +kernel
theorem dL_law_1310 : decode cL_law 1310 = .ok (.ireturn, 1) := by decide +kernel
theorem dL_law_1311 : decode cL_law 1311 = .ok (.goto 558, 3) := by decide +kernel
theorem dL_law_1314 : decode cL_law 1314 = .ok (.aload_n 1, 1) := by decide +kernel
theorem dL_law_1315 : decode cL_law 1315 = .ok (.aload_n 0, 1) := by decide +kernel
theorem dL_law_1316 : decode cL_law 1316 = .ok (.iload 4, 2) := by decide +kernel
theorem dL_law_1318 : decode cL_law 1318 = .ok (.iconst 1, 1) := by decide +kernel
theorem dL_law_1319 : decode cL_law 1319 = .ok (.iadd, 1) := by decide +kernel
theorem dL_law_1320 : decode cL_law 1320 = .ok (.iaload, 1) := by decide +kernel
theorem dL_law_1321 : decode cL_law 1321 = .ok (.aload_n 3, 1) := by decide +kernel
theorem dL_law_1322 : decode cL_law 1322 = .ok (.invokestatic 183, 3) := by decide +kernel
theorem dL_law_1325 : decode cL_law 1325 = .ok (.istore 5, 2) := by decide +kernel
theorem dL_law_1327 : decode cL_law 1327 = .ok (.aload_n 2, 1) := by decide +kernel
theorem dL_law_1328 : decode cL_law 1328 = .ok (.aload_n 0, 1) := by decide +kernel
theorem dL_law_1329 : decode cL_law 1329 = .ok (.iload 4, 2) := by decide +kernel
theorem dL_law_1331 : decode cL_law 1331 = .ok (.iconst 1, 1) := by decide +kernel
theorem dL_law_1332 : decode cL_law 1332 = .ok (.iadd, 1) := by decide +kernel
theorem dL_law_1333 : decode cL_law 1333 = .ok (.iaload, 1) := by decide +kernel
theorem dL_law_1334 : decode cL_law 1334 = .ok (.invokevirtual 185, 3) := by decide +kernel
theorem dL_law_1337 : decode cL_law 1337 = .ok (.istore 6, 2) := by decide +kernel
theorem dL_law_1339 : decode cL_law 1339 = .ok (.aload_n 2, 1) := by decide +kernel
theorem dL_law_1340 : decode cL_law 1340 = .ok (.invokevirtual 115, 3) := by decide +kernel
theorem dL_law_1343 : decode cL_law 1343 = .ok (.iload 5, 2) := by decide +kernel
theorem dL_law_1345 : decode cL_law 1345 = .ok (.if_icmp .eq 5, 3) := by decide +kernel
theorem dL_law_1348 : decode cL_law 1348 = .ok (.iconst 0, 1) := by decide +kernel
theorem dL_law_1349 : decode cL_law 1349 = .ok (.ireturn, 1) := by decide +kernel
theorem dL_law_1350 : decode cL_law 1350 = .ok (.iload 5, 2) := by decide +kernel
theorem dL_law_1352 : decode cL_law 1352 = .ok (.ifCond .ne 15, 3) := by decide +kernel
theorem dL_law_1355 : decode cL_law 1355 = .ok (.aload_n 3, 1) := by decide +kernel
theorem dL_law_1356 : decode cL_law 1356 = .ok (.iconst 0, 1) := by decide +kernel
theorem dL_law_1357 : decode cL_law 1357 = .ok (.laload, 1) := by decide +kernel
theorem dL_law_1358 : decode cL_law 1358 = .ok (.iload 6, 2) := by decide +kernel
theorem dL_law_1360 : decode cL_law 1360 = .ok (.i2l, 1) := by decide +kernel
theorem dL_law_1361 : decode cL_law 1361 = .ok (.lcmp, 1) := by decide +kernel
theorem dL_law_1362 : decode cL_law 1362 = .ok (.ifCond .eq 5, 3) := by decide +kernel
theorem dL_law_1365 : decode cL_law 1365 = .ok (.iconst 0, 1) := by decide +kernel
theorem dL_law_1366 : decode cL_law 1366 = .ok (.ireturn, 1) := by decide +kernel
theorem dL_law_1367 : decode cL_law 1367 = .ok (.goto 502, 3) := by decide +kernel
theorem dL_law_1370 : decode cL_law 1370 = .ok (.aload_n 1, 1) := by decide +kernel
theorem dL_law_1371 : decode cL_law 1371 = .ok (.aload_n 0, 1) := by decide +kernel
theorem dL_law_1372 : decode cL_law 1372 = .ok (.iload 4, 2) := by decide +kernel
theorem dL_law_1374 : decode cL_law 1374 = .ok (.iconst 1, 1) := by decide +kernel
theorem dL_law_1375 : decode cL_law 1375 = .ok (.iadd, 1) := by decide +kernel
theorem dL_law_1376 : decode cL_law 1376 = .ok (.iaload, 1) := by decide +kernel
theorem dL_law_1377 : decode cL_law 1377 = .ok (.aload_n 0, 1) := by decide +kernel
theorem dL_law_1378 : decode cL_law 1378 = .ok (.iload 4, 2) := by decide +kernel
theorem dL_law_1380 : decode cL_law 1380 = .ok (.iconst 2, 1) := by decide +kernel
theorem dL_law_1381 : decode cL_law 1381 = .ok (.iadd, 1) := by decide +kernel
theorem dL_law_1382 : decode cL_law 1382 = .ok (.iaload, 1) := by decide +kernel
theorem dL_law_1383 : decode cL_law 1383 = .ok (.aload_n 3, 1) := by decide +kernel
theorem dL_law_1384 : decode cL_law 1384 = .ok (.invokestatic 186, 3) := by decide +kernel
theorem dL_law_1387 : decode cL_law 1387 = .ok (.istore 5, 2) := by decide +kernel
theorem dL_law_1389 : decode cL_law 1389 = .ok (.aload_n 2, 1) := by decide +kernel
theorem dL_law_1390 : decode cL_law 1390 = .ok (.aload_n 0, 1) := by decide +kernel
theorem dL_law_1391 : decode cL_law 1391 = .ok (.iload 4, 2) := by decide +kernel
theorem dL_law_1393 : decode cL_law 1393 = .ok (.iconst 1, 1) := by decide +kernel
theorem dL_law_1394 : decode cL_law 1394 = .ok (.iadd, 1) := by decide +kernel
theorem dL_law_1395 : decode cL_law 1395 = .ok (.iaload, 1) := by decide +kernel
theorem dL_law_1396 : decode cL_law 1396 = .ok (.aload_n 0, 1) := by decide +kernel
theorem dL_law_1397 : decode cL_law 1397 = .ok (.iload 4, 2) := by decide +kernel
theorem dL_law_1399 : decode cL_law 1399 = .ok (.iconst 2, 1) := by decide +kernel
theorem dL_law_1400 : decode cL_law 1400 = .ok (.iadd, 1) := by decide +kernel
theorem dL_law_1401 : decode cL_law 1401 = .ok (.iaload, 1) := by decide +kernel
theorem dL_law_1402 : decode cL_law 1402 = .ok (.invokevirtual 188, 3) := by decide +kernel
theorem dL_law_1405 : decode cL_law 1405 = .ok (.istore 6, 2) := by decide +kernel
theorem dL_law_1407 : decode cL_law 1407 = .ok (.aload_n 2, 1) := by decide +kernel
theorem dL_law_1408 : decode cL_law 1408 = .ok (.invokevirtual 115, 3) := by decide +kernel
theorem dL_law_1411 : decode cL_law 1411 = .ok (.iload 5, 2) := by decide +kernel
theorem dL_law_1413 : decode cL_law 1413 = .ok (.if_icmp .eq 5, 3) := by decide +kernel
theorem dL_law_1416 : decode cL_law 1416 = .ok (.iconst 0, 1) := by decide +kernel
theorem dL_law_1417 : decode cL_law 1417 = .ok (.ireturn, 1) := by decide +kernel
theorem dL_law_1418 : decode cL_law 1418 = .ok (.iload 5, 2) := by decide +kernel
theorem dL_law_1420 : decode cL_law 1420 = .ok (.ifCond .ne 15, 3) := by decide +kernel
theorem dL_law_1423 : decode cL_law 1423 = .ok (.aload_n 3, 1) := by decide +kernel
theorem dL_law_1424 : decode cL_law 1424 = .ok (.iconst 0, 1) := by decide +kernel
theorem dL_law_1425 : decode cL_law 1425 = .ok (.laload, 1) := by decide +kernel
theorem dL_law_1426 : decode cL_law 1426 = .ok (.iload 6, 2) := by decide +kernel
theorem dL_law_1428 : decode cL_law 1428 = .ok (.i2l, 1) := by decide +kernel
theorem dL_law_1429 : decode cL_law 1429 = .ok (.lcmp, 1) := by decide +kernel
theorem dL_law_1430 : decode cL_law 1430 = .ok (.ifCond .eq 5, 3) := by decide +kernel
theorem dL_law_1433 : decode cL_law 1433 = .ok (.iconst 0, 1) := by decide +kernel
theorem dL_law_1434 : decode cL_law 1434 = .ok (.ireturn, 1) := by decide +kernel
theorem dL_law_1435 : decode cL_law 1435 = .ok (.goto 434, 3) := by decide +kernel
theorem dL_law_1438 : decode cL_law 1438 = .ok (.aload_n 1, 1) := by decide +kernel
theorem dL_law_1439 : decode cL_law 1439 = .ok (.aload_n 0, 1) := by decide +kernel
theorem dL_law_1440 : decode cL_law 1440 = .ok (.iload 4, 2) := by decide +kernel
theorem dL_law_1442 : decode cL_law 1442 = .ok (.iconst 1, 1) := by decide +kernel
theorem dL_law_1443 : decode cL_law 1443 = .ok (.iadd, 1) := by decide +kernel
theorem dL_law_1444 : decode cL_law 1444 = .ok (.iaload, 1) := by decide +kernel
theorem dL_law_1445 : decode cL_law 1445 = .ok (.aload_n 0, 1) := by decide +kernel
theorem dL_law_1446 : decode cL_law 1446 = .ok (.iload 4, 2) := by decide +kernel
theorem dL_law_1448 : decode cL_law 1448 = .ok (.iconst 2, 1) := by decide +kernel
theorem dL_law_1449 : decode cL_law 1449 = .ok (.iadd, 1) := by decide +kernel
theorem dL_law_1450 : decode cL_law 1450 = .ok (.iaload, 1) := by decide +kernel
theorem dL_law_1451 : decode cL_law 1451 = .ok (.aload_n 3, 1) := by decide +kernel
theorem dL_law_1452 : decode cL_law 1452 = .ok (.invokestatic 189, 3) := by decide +kernel
theorem dL_law_1455 : decode cL_law 1455 = .ok (.istore 5, 2) := by decide +kernel
theorem dL_law_1457 : decode cL_law 1457 = .ok (.aload_n 2, 1) := by decide +kernel
theorem dL_law_1458 : decode cL_law 1458 = .ok (.aload_n 0, 1) := by decide +kernel
theorem dL_law_1459 : decode cL_law 1459 = .ok (.iload 4, 2) := by decide +kernel
theorem dL_law_1461 : decode cL_law 1461 = .ok (.iconst 1, 1) := by decide +kernel
theorem dL_law_1462 : decode cL_law 1462 = .ok (.iadd, 1) := by decide +kernel
theorem dL_law_1463 : decode cL_law 1463 = .ok (.iaload, 1) := by decide +kernel
theorem dL_law_1464 : decode cL_law 1464 = .ok (.aload_n 0, 1) := by decide +kernel
theorem dL_law_1465 : decode cL_law 1465 = .ok (.iload 4, 2) := by decide +kernel
theorem dL_law_1467 : decode cL_law 1467 = .ok (.iconst 2, 1) := by decide +kernel
theorem dL_law_1468 : decode cL_law 1468 = .ok (.iadd, 1) := by decide +kernel
theorem dL_law_1469 : decode cL_law 1469 = .ok (.iaload, 1) := by decide +kernel
theorem dL_law_1470 : decode cL_law 1470 = .ok (.invokevirtual 191, 3) := by decide +kernel
theorem dL_law_1473 : decode cL_law 1473 = .ok (.istore 6, 2) := by decide +kernel
theorem dL_law_1475 : decode cL_law 1475 = .ok (.aload_n 2, 1) := by decide +kernel
theorem dL_law_1476 : decode cL_law 1476 = .ok (.invokevirtual 115, 3) := by decide +kernel
theorem dL_law_1479 : decode cL_law 1479 = .ok (.iload 5, 2) := by decide +kernel
theorem dL_law_1481 : decode cL_law 1481 = .ok (.if_icmp .eq 5, 3) := by decide +kernel
theorem dL_law_1484 : decode cL_law 1484 = .ok (.iconst 0, 1) := by decide +kernel
theorem dL_law_1485 : decode cL_law 1485 = .ok (.ireturn, 1) := by decide +kernel
theorem dL_law_1486 : decode cL_law 1486 = .ok (.iload 5, 2) := by decide +kernel
theorem dL_law_1488 : decode cL_law 1488 = .ok (.ifCond .ne 15, 3) := by decide +kernel
theorem dL_law_1491 : decode cL_law 1491 = .ok (.aload_n 3, 1) := by decide +kernel
theorem dL_law_1492 : decode cL_law 1492 = .ok (.iconst 0, 1) := by decide +kernel
theorem dL_law_1493 : decode cL_law 1493 = .ok (.laload, 1) := by decide +kernel
theorem dL_law_1494 : decode cL_law 1494 = .ok (.iload 6, 2) := by decide +kernel
theorem dL_law_1496 : decode cL_law 1496 = .ok (.i2l, 1) := by decide +kernel
theorem dL_law_1497 : decode cL_law 1497 = .ok (.lcmp, 1) := by decide +kernel
theorem dL_law_1498 : decode cL_law 1498 = .ok (.ifCond .eq 5, 3) := by decide +kernel
theorem dL_law_1501 : decode cL_law 1501 = .ok (.iconst 0, 1) := by decide +kernel
theorem dL_law_1502 : decode cL_law 1502 = .ok (.ireturn, 1) := by decide +kernel
theorem dL_law_1503 : decode cL_law 1503 = .ok (.goto 366, 3) := by decide +kernel
theorem dL_law_1506 : decode cL_law 1506 = .ok (.aload_n 1, 1) := by decide +kernel
theorem dL_law_1507 : decode cL_law 1507 = .ok (.aload_n 0, 1) := by decide +kernel
theorem dL_law_1508 : decode cL_law 1508 = .ok (.iload 4, 2) := by decide +kernel
theorem dL_law_1510 : decode cL_law 1510 = .ok (.iconst 1, 1) := by decide +kernel
theorem dL_law_1511 : decode cL_law 1511 = .ok (.iadd, 1) := by decide +kernel
theorem dL_law_1512 : decode cL_law 1512 = .ok (.iaload, 1) := by decide +kernel
theorem dL_law_1513 : decode cL_law 1513 = .ok (.aload_n 3, 1) := by decide +kernel
theorem dL_law_1514 : decode cL_law 1514 = .ok (.invokestatic 192, 3) := by decide +kernel
theorem dL_law_1517 : decode cL_law 1517 = .ok (.istore 5, 2) := by decide +kernel
theorem dL_law_1519 : decode cL_law 1519 = .ok (.aload_n 2, 1) := by decide +kernel
theorem dL_law_1520 : decode cL_law 1520 = .ok (.aload_n 0, 1) := by decide +kernel
theorem dL_law_1521 : decode cL_law 1521 = .ok (.iload 4, 2) := by decide +kernel
theorem dL_law_1523 : decode cL_law 1523 = .ok (.iconst 1, 1) := by decide +kernel
theorem dL_law_1524 : decode cL_law 1524 = .ok (.iadd, 1) := by decide +kernel
theorem dL_law_1525 : decode cL_law 1525 = .ok (.iaload, 1) := by decide +kernel
theorem dL_law_1526 : decode cL_law 1526 = .ok (.invokevirtual 194, 3) := by decide +kernel
theorem dL_law_1529 : decode cL_law 1529 = .ok (.istore 6, 2) := by decide +kernel
theorem dL_law_1531 : decode cL_law 1531 = .ok (.aload_n 2, 1) := by decide +kernel
theorem dL_law_1532 : decode cL_law 1532 = .ok (.invokevirtual 115, 3) := by decide +kernel
theorem dL_law_1535 : decode cL_law 1535 = .ok (.iload 5, 2) := by decide +kernel
theorem dL_law_1537 : decode cL_law 1537 = .ok (.if_icmp .eq 5, 3) := by decide +kernel
theorem dL_law_1540 : decode cL_law 1540 = .ok (.iconst 0, 1) := by decide +kernel
theorem dL_law_1541 : decode cL_law 1541 = .ok (.ireturn, 1) := by decide +kernel
theorem dL_law_1542 : decode cL_law 1542 = .ok (.iload 5, 2) := by decide +kernel
theorem dL_law_1544 : decode cL_law 1544 = .ok (.ifCond .ne 15, 3) := by decide +kernel
theorem dL_law_1547 : decode cL_law 1547 = .ok (.aload_n 3, 1) := by decide +kernel
theorem dL_law_1548 : decode cL_law 1548 = .ok (.iconst 0, 1) := by decide +kernel
theorem dL_law_1549 : decode cL_law 1549 = .ok (.laload, 1) := by decide +kernel
theorem dL_law_1550 : decode cL_law 1550 = .ok (.iload 6, 2) := by decide +kernel
theorem dL_law_1552 : decode cL_law 1552 = .ok (.i2l, 1) := by decide +kernel
theorem dL_law_1553 : decode cL_law 1553 = .ok (.lcmp, 1) := by decide +kernel
theorem dL_law_1554 : decode cL_law 1554 = .ok (.ifCond .eq 5, 3) := by decide +kernel
theorem dL_law_1557 : decode cL_law 1557 = .ok (.iconst 0, 1) := by decide +kernel
theorem dL_law_1558 : decode cL_law 1558 = .ok (.ireturn, 1) := by decide +kernel
theorem dL_law_1559 : decode cL_law 1559 = .ok (.goto 310, 3) := by decide +kernel
theorem dL_law_1562 : decode cL_law 1562 = .ok (.aload_n 1, 1) := by decide +kernel
theorem dL_law_1563 : decode cL_law 1563 = .ok (.invokevirtual 195, 3) := by decide +kernel
theorem dL_law_1566 : decode cL_law 1566 = .ok (.aload_n 2, 1) := by decide +kernel
theorem dL_law_1567 : decode cL_law 1567 = .ok (.invokevirtual 198, 3) := by decide +kernel
theorem dL_law_1570 : decode cL_law 1570 = .ok (.if_icmp .eq 299, 3) := by decide +kernel
theorem dL_law_1573 : decode cL_law 1573 = .ok (.iconst 0, 1) := by decide +kernel
theorem dL_law_1574 : decode cL_law 1574 = .ok (.ireturn, 1) := by decide +kernel
theorem dL_law_1575 : decode cL_law 1575 = .ok (.aload_n 1, 1) := by decide +kernel
theorem dL_law_1576 : decode cL_law 1576 = .ok (.aload_n 0, 1) := by decide +kernel
theorem dL_law_1577 : decode cL_law 1577 = .ok (.iload 4, 2) := by decide +kernel
theorem dL_law_1579 : decode cL_law 1579 = .ok (.iconst 1, 1) := by decide +kernel
theorem dL_law_1580 : decode cL_law 1580 = .ok (.iadd, 1) := by decide +kernel
theorem dL_law_1581 : decode cL_law 1581 = .ok (.iaload, 1) := by decide +kernel
theorem dL_law_1582 : decode cL_law 1582 = .ok (.aload_n 3, 1) := by decide +kernel
theorem dL_law_1583 : decode cL_law 1583 = .ok (.invokestatic 199, 3) := by decide +kernel
theorem dL_law_1586 : decode cL_law 1586 = .ok (.istore 5, 2) := by decide +kernel
theorem dL_law_1588 : decode cL_law 1588 = .ok (.aload_n 2, 1) := by decide +kernel
theorem dL_law_1589 : decode cL_law 1589 = .ok (.aload_n 0, 1) := by decide +kernel
theorem dL_law_1590 : decode cL_law 1590 = .ok (.iload 4, 2) := by decide +kernel
theorem dL_law_1592 : decode cL_law 1592 = .ok (.iconst 1, 1) := by decide +kernel
theorem dL_law_1593 : decode cL_law 1593 = .ok (.iadd, 1) := by decide +kernel
theorem dL_law_1594 : decode cL_law 1594 = .ok (.iaload, 1) := by decide +kernel
theorem dL_law_1595 : decode cL_law 1595 = .ok (.invokevirtual 201, 3) := by decide +kernel
theorem dL_law_1598 : decode cL_law 1598 = .ok (.istore 6, 2) := by decide +kernel
theorem dL_law_1600 : decode cL_law 1600 = .ok (.aload_n 2, 1) := by decide +kernel
theorem dL_law_1601 : decode cL_law 1601 = .ok (.invokevirtual 115, 3) := by decide +kernel
theorem dL_law_1604 : decode cL_law 1604 = .ok (.iload 5, 2) := by decide +kernel
theorem dL_law_1606 : decode cL_law 1606 = .ok (.if_icmp .eq 5, 3) := by decide +kernel
theorem dL_law_1609 : decode cL_law 1609 = .ok (.iconst 0, 1) := by decide +kernel
theorem dL_law_1610 : decode cL_law 1610 = .ok (.ireturn, 1) := by decide +kernel
theorem dL_law_1611 : decode cL_law 1611 = .ok (.iload 5, 2) := by decide +kernel
theorem dL_law_1613 : decode cL_law 1613 = .ok (.ifCond .ne 15, 3) := by decide +kernel
theorem dL_law_1616 : decode cL_law 1616 = .ok (.aload_n 3, 1) := by decide +kernel
theorem dL_law_1617 : decode cL_law 1617 = .ok (.iconst 0, 1) := by decide +kernel
theorem dL_law_1618 : decode cL_law 1618 = .ok (.laload, 1) := by decide +kernel
theorem dL_law_1619 : decode cL_law 1619 = .ok (.iload 6, 2) := by decide +kernel
theorem dL_law_1621 : decode cL_law 1621 = .ok (.i2l, 1) := by decide +kernel
theorem dL_law_1622 : decode cL_law 1622 = .ok (.lcmp, 1) := by decide +kernel
theorem dL_law_1623 : decode cL_law 1623 = .ok (.ifCond .eq 5, 3) := by decide +kernel
theorem dL_law_1626 : decode cL_law 1626 = .ok (.iconst 0, 1) := by decide +kernel
theorem dL_law_1627 : decode cL_law 1627 = .ok (.ireturn, 1) := by decide +kernel
theorem dL_law_1628 : decode cL_law 1628 = .ok (.goto 241, 3) := by decide +kernel
theorem dL_law_1631 : decode cL_law 1631 = .ok (.aload_n 1, 1) := by decide +kernel
theorem dL_law_1632 : decode cL_law 1632 = .ok (.aload_n 0, 1) := by decide +kernel
theorem dL_law_1633 : decode cL_law 1633 = .ok (.iload 4, 2) := by decide +kernel
theorem dL_law_1635 : decode cL_law 1635 = .ok (.iconst 1, 1) := by decide +kernel
theorem dL_law_1636 : decode cL_law 1636 = .ok (.iadd, 1) := by decide +kernel
theorem dL_law_1637 : decode cL_law 1637 = .ok (.iaload, 1) := by decide +kernel
theorem dL_law_1638 : decode cL_law 1638 = .ok (.aload_n 3, 1) := by decide +kernel
theorem dL_law_1639 : decode cL_law 1639 = .ok (.invokestatic 202, 3) := by decide +kernel
theorem dL_law_1642 : decode cL_law 1642 = .ok (.istore 5, 2) := by decide +kernel
theorem dL_law_1644 : decode cL_law 1644 = .ok (.aload_n 2, 1) := by decide +kernel
theorem dL_law_1645 : decode cL_law 1645 = .ok (.aload_n 0, 1) := by decide +kernel
theorem dL_law_1646 : decode cL_law 1646 = .ok (.iload 4, 2) := by decide +kernel
theorem dL_law_1648 : decode cL_law 1648 = .ok (.iconst 1, 1) := by decide +kernel
theorem dL_law_1649 : decode cL_law 1649 = .ok (.iadd, 1) := by decide +kernel
theorem dL_law_1650 : decode cL_law 1650 = .ok (.iaload, 1) := by decide +kernel
theorem dL_law_1651 : decode cL_law 1651 = .ok (.invokevirtual 204, 3) := by decide +kernel
theorem dL_law_1654 : decode cL_law 1654 = .ok (.istore 6, 2) := by decide +kernel
theorem dL_law_1656 : decode cL_law 1656 = .ok (.aload_n 2, 1) := by decide +kernel
theorem dL_law_1657 : decode cL_law 1657 = .ok (.invokevirtual 115, 3) := by decide +kernel
theorem dL_law_1660 : decode cL_law 1660 = .ok (.iload 5, 2) := by decide +kernel
theorem dL_law_1662 : decode cL_law 1662 = .ok (.if_icmp .eq 5, 3) := by decide +kernel
theorem dL_law_1665 : decode cL_law 1665 = .ok (.iconst 0, 1) := by decide +kernel
theorem dL_law_1666 : decode cL_law 1666 = .ok (.ireturn, 1) := by decide +kernel
theorem dL_law_1667 : decode cL_law 1667 = .ok (.iload 5, 2) := by decide +kernel
theorem dL_law_1669 : decode cL_law 1669 = .ok (.ifCond .ne 15, 3) := by decide +kernel
theorem dL_law_1672 : decode cL_law 1672 = .ok (.aload_n 3, 1) := by decide +kernel
theorem dL_law_1673 : decode cL_law 1673 = .ok (.iconst 0, 1) := by decide +kernel
theorem dL_law_1674 : decode cL_law 1674 = .ok (.laload, 1) := by decide +kernel
theorem dL_law_1675 : decode cL_law 1675 = .ok (.iload 6, 2) := by decide +kernel
theorem dL_law_1677 : decode cL_law 1677 = .ok (.i2l, 1) := by decide +kernel
theorem dL_law_1678 : decode cL_law 1678 = .ok (.lcmp, 1) := by decide +kernel
theorem dL_law_1679 : decode cL_law 1679 = .ok (.ifCond .eq 5, 3) := by decide +kernel
theorem dL_law_1682 : decode cL_law 1682 = .ok (.iconst 0, 1) := by decide +kernel
theorem dL_law_1683 : decode cL_law 1683 = .ok (.ireturn, 1) := by decide +kernel
theorem dL_law_1684 : decode cL_law 1684 = .ok (.goto 185, 3) := by decide +kernel
theorem dL_law_1687 : decode cL_law 1687 = .ok (.aload_n 1, 1) := by decide +kernel
theorem dL_law_1688 : decode cL_law 1688 = .ok (.aload_n 0, 1) := by decide +kernel
theorem dL_law_1689 : decode cL_law 1689 = .ok (.iload 4, 2) := by decide +kernel
theorem dL_law_1691 : decode cL_law 1691 = .ok (.iconst 1, 1) := by decide +kernel
theorem dL_law_1692 : decode cL_law 1692 = .ok (.iadd, 1) := by decide +kernel
theorem dL_law_1693 : decode cL_law 1693 = .ok (.iaload, 1) := by decide +kernel
theorem dL_law_1694 : decode cL_law 1694 = .ok (.aload_n 3, 1) := by decide +kernel
theorem dL_law_1695 : decode cL_law 1695 = .ok (.invokestatic 205, 3) := by decide +kernel
theorem dL_law_1698 : decode cL_law 1698 = .ok (.istore 5, 2) := by decide +kernel
theorem dL_law_1700 : decode cL_law 1700 = .ok (.aload_n 2, 1) := by decide +kernel
theorem dL_law_1701 : decode cL_law 1701 = .ok (.aload_n 0, 1) := by decide +kernel
theorem dL_law_1702 : decode cL_law 1702 = .ok (.iload 4, 2) := by decide +kernel
theorem dL_law_1704 : decode cL_law 1704 = .ok (.iconst 1, 1) := by decide +kernel
theorem dL_law_1705 : decode cL_law 1705 = .ok (.iadd, 1) := by decide +kernel
theorem dL_law_1706 : decode cL_law 1706 = .ok (.iaload, 1) := by decide +kernel
theorem dL_law_1707 : decode cL_law 1707 = .ok (.invokevirtual 207, 3) := by decide +kernel
theorem dL_law_1710 : decode cL_law 1710 = .ok (.istore 6, 2) := by decide +kernel
theorem dL_law_1712 : decode cL_law 1712 = .ok (.aload_n 2, 1) := by decide +kernel
theorem dL_law_1713 : decode cL_law 1713 = .ok (.invokevirtual 115, 3) := by decide +kernel
theorem dL_law_1716 : decode cL_law 1716 = .ok (.iload 5, 2) := by decide +kernel
theorem dL_law_1718 : decode cL_law 1718 = .ok (.if_icmp .eq 5, 3) := by decide +kernel
theorem dL_law_1721 : decode cL_law 1721 = .ok (.iconst 0, 1) := by decide +kernel
theorem dL_law_1722 : decode cL_law 1722 = .ok (.ireturn, 1) := by decide +kernel
theorem dL_law_1723 : decode cL_law 1723 = .ok (.iload 5, 2) := by decide +kernel
theorem dL_law_1725 : decode cL_law 1725 = .ok (.ifCond .ne 15, 3) := by decide +kernel
theorem dL_law_1728 : decode cL_law 1728 = .ok (.aload_n 3, 1) := by decide +kernel
theorem dL_law_1729 : decode cL_law 1729 = .ok (.iconst 0, 1) := by decide +kernel
theorem dL_law_1730 : decode cL_law 1730 = .ok (.laload, 1) := by decide +kernel
theorem dL_law_1731 : decode cL_law 1731 = .ok (.iload 6, 2) := by decide +kernel
theorem dL_law_1733 : decode cL_law 1733 = .ok (.i2l, 1) := by decide +kernel
theorem dL_law_1734 : decode cL_law 1734 = .ok (.lcmp, 1) := by decide +kernel
theorem dL_law_1735 : decode cL_law 1735 = .ok (.ifCond .eq 5, 3) := by decide +kernel
theorem dL_law_1738 : decode cL_law 1738 = .ok (.iconst 0, 1) := by decide +kernel
theorem dL_law_1739 : decode cL_law 1739 = .ok (.ireturn, 1) := by decide +kernel
theorem dL_law_1740 : decode cL_law 1740 = .ok (.goto 129, 3) := by decide +kernel
theorem dL_law_1743 : decode cL_law 1743 = .ok (.aload_n 1, 1) := by decide +kernel
theorem dL_law_1744 : decode cL_law 1744 = .ok (.aload_n 3, 1) := by decide +kernel
theorem dL_law_1745 : decode cL_law 1745 = .ok (.invokestatic 208, 3) := by decide +kernel
theorem dL_law_1748 : decode cL_law 1748 = .ok (.istore 5, 2) := by decide +kernel
theorem dL_law_1750 : decode cL_law 1750 = .ok (.aload_n 2, 1) := by decide +kernel
theorem dL_law_1751 : decode cL_law 1751 = .ok (.invokevirtual 210, 3) := by decide +kernel
theorem dL_law_1754 : decode cL_law 1754 = .ok (.istore 6, 2) := by decide +kernel
theorem dL_law_1756 : decode cL_law 1756 = .ok (.aload_n 2, 1) := by decide +kernel
theorem dL_law_1757 : decode cL_law 1757 = .ok (.invokevirtual 115, 3) := by decide +kernel
theorem dL_law_1760 : decode cL_law 1760 = .ok (.iload 5, 2) := by decide +kernel
theorem dL_law_1762 : decode cL_law 1762 = .ok (.if_icmp .eq 5, 3) := by decide +kernel
theorem dL_law_1765 : decode cL_law 1765 = .ok (.iconst 0, 1) := by decide +kernel
theorem dL_law_1766 : decode cL_law 1766 = .ok (.ireturn, 1) := by decide +kernel
theorem dL_law_1767 : decode cL_law 1767 = .ok (.iload 5, 2) := by decide +kernel
theorem dL_law_1769 : decode cL_law 1769 = .ok (.ifCond .ne 15, 3) := by decide +kernel
theorem dL_law_1772 : decode cL_law 1772 = .ok (.aload_n 3, 1) := by decide +kernel
theorem dL_law_1773 : decode cL_law 1773 = .ok (.iconst 0, 1) := by decide +kernel
theorem dL_law_1774 : decode cL_law 1774 = .ok (.laload, 1) := by decide +kernel
theorem dL_law_1775 : decode cL_law 1775 = .ok (.iload 6, 2) := by decide +kernel
theorem dL_law_1777 : decode cL_law 1777 = .ok (.i2l, 1) := by decide +kernel
theorem dL_law_1778 : decode cL_law 1778 = .ok (.lcmp, 1) := by decide +kernel
theorem dL_law_1779 : decode cL_law 1779 = .ok (.ifCond .eq 5, 3) := by decide +kernel
theorem dL_law_1782 : decode cL_law 1782 = .ok (.iconst 0, 1) := by decide +kernel
theorem dL_law_1783 : decode cL_law 1783 = .ok (.ireturn, 1) := by decide +kernel
theorem dL_law_1784 : decode cL_law 1784 = .ok (.goto 85, 3) := by decide +kernel
theorem dL_law_1787 : decode cL_law 1787 = .ok (.aload_n 1, 1) := by decide +kernel
theorem dL_law_1788 : decode cL_law 1788 = .ok (.invokevirtual 211, 3) := by decide +kernel
theorem dL_law_1791 : decode cL_law 1791 = .ok (.aload_n 2, 1) := by decide +kernel
theorem dL_law_1792 : decode cL_law 1792 = .ok (.invokevirtual 214, 3) := by decide +kernel
theorem dL_law_1795 : decode cL_law 1795 = .ok (.if_icmp .eq 74, 3) := by decide +kernel
theorem dL_law_1798 : decode cL_law 1798 = .ok (.iconst 0, 1) := by decide +kernel
theorem dL_law_1799 : decode cL_law 1799 = .ok (.ireturn, 1) := by decide +kernel
theorem dL_law_1800 : decode cL_law 1800 = .ok (.aload_n 1, 1) := by decide +kernel
theorem dL_law_1801 : decode cL_law 1801 = .ok (.aload_n 0, 1) := by decide +kernel
theorem dL_law_1802 : decode cL_law 1802 = .ok (.iload 4, 2) := by decide +kernel
theorem dL_law_1804 : decode cL_law 1804 = .ok (.iconst 1, 1) := by decide +kernel
theorem dL_law_1805 : decode cL_law 1805 = .ok (.iadd, 1) := by decide +kernel
theorem dL_law_1806 : decode cL_law 1806 = .ok (.iaload, 1) := by decide +kernel
theorem dL_law_1807 : decode cL_law 1807 = .ok (.aload_n 3, 1) := by decide +kernel
theorem dL_law_1808 : decode cL_law 1808 = .ok (.invokestatic 215, 3) := by decide +kernel
theorem dL_law_1811 : decode cL_law 1811 = .ok (.istore 5, 2) := by decide +kernel
theorem dL_law_1813 : decode cL_law 1813 = .ok (.aload_n 2, 1) := by decide +kernel
theorem dL_law_1814 : decode cL_law 1814 = .ok (.aload_n 0, 1) := by decide +kernel
theorem dL_law_1815 : decode cL_law 1815 = .ok (.iload 4, 2) := by decide +kernel
theorem dL_law_1817 : decode cL_law 1817 = .ok (.iconst 1, 1) := by decide +kernel
theorem dL_law_1818 : decode cL_law 1818 = .ok (.iadd, 1) := by decide +kernel
theorem dL_law_1819 : decode cL_law 1819 = .ok (.iaload, 1) := by decide +kernel
theorem dL_law_1820 : decode cL_law 1820 = .ok (.invokevirtual 217, 3) := by decide +kernel
theorem dL_law_1823 : decode cL_law 1823 = .ok (.istore 6, 2) := by decide +kernel
theorem dL_law_1825 : decode cL_law 1825 = .ok (.aload_n 2, 1) := by decide +kernel
theorem dL_law_1826 : decode cL_law 1826 = .ok (.invokevirtual 115, 3) := by decide +kernel
theorem dL_law_1829 : decode cL_law 1829 = .ok (.iload 5, 2) := by decide +kernel
theorem dL_law_1831 : decode cL_law 1831 = .ok (.if_icmp .eq 5, 3) := by decide +kernel
theorem dL_law_1834 : decode cL_law 1834 = .ok (.iconst 0, 1) := by decide +kernel
theorem dL_law_1835 : decode cL_law 1835 = .ok (.ireturn, 1) := by decide +kernel
theorem dL_law_1836 : decode cL_law 1836 = .ok (.iload 5, 2) := by decide +kernel
theorem dL_law_1838 : decode cL_law 1838 = .ok (.ifCond .ne 15, 3) := by decide +kernel
theorem dL_law_1841 : decode cL_law 1841 = .ok (.aload_n 3, 1) := by decide +kernel
theorem dL_law_1842 : decode cL_law 1842 = .ok (.iconst 0, 1) := by decide +kernel
theorem dL_law_1843 : decode cL_law 1843 = .ok (.laload, 1) := by decide +kernel
theorem dL_law_1844 : decode cL_law 1844 = .ok (.iload 6, 2) := by decide +kernel
theorem dL_law_1846 : decode cL_law 1846 = .ok (.i2l, 1) := by decide +kernel
theorem dL_law_1847 : decode cL_law 1847 = .ok (.lcmp, 1) := by decide +kernel
theorem dL_law_1848 : decode cL_law 1848 = .ok (.ifCond .eq 5, 3) := by decide +kernel
theorem dL_law_1851 : decode cL_law 1851 = .ok (.iconst 0, 1) := by decide +kernel
theorem dL_law_1852 : decode cL_law 1852 = .ok (.ireturn, 1) := by decide +kernel
theorem dL_law_1853 : decode cL_law 1853 = .ok (.goto 16, 3) := by decide +kernel
theorem dL_law_1856 : decode cL_law 1856 = .ok (.aload_n 1, 1) := by decide +kernel
theorem dL_law_1857 : decode cL_law 1857 = .ok (.invokevirtual 218, 3) := by decide +kernel
theorem dL_law_1860 : decode cL_law 1860 = .ok (.aload_n 2, 1) := by decide +kernel
theorem dL_law_1861 : decode cL_law 1861 = .ok (.invokevirtual 221, 3) := by decide +kernel
theorem dL_law_1864 : decode cL_law 1864 = .ok (.if_icmp .eq 5, 3) := by decide +kernel
theorem dL_law_1867 : decode cL_law 1867 = .ok (.iconst 0, 1) := by decide +kernel
theorem dL_law_1868 : decode cL_law 1868 = .ok (.ireturn, 1) := by decide +kernel
theorem dL_law_1869 : decode cL_law 1869 = .ok (.iinc 4 4, 3) := by decide +kernel
theorem dL_law_1872 : decode cL_law 1872 = .ok (.goto (-1839), 3) := by decide +kernel
theorem dL_law_1875 : decode cL_law 1875 = .ok (.iconst 1, 1) := by decide +kernel
theorem dL_law_1876 : decode cL_law 1876 = .ok (.ireturn, 1) := by decide +kernel
end
section
/-! LOGICAL HEAPS OVER THE MACHINE: addresses are tags that the writer chooses; a judgement J over a frame, with one rule an instruction; a contract CT a method. My own text. -/
abbrev Tg : Type := Nat × Nat
/-- a value: an int, a long, a reference by its tag or null -/
abbrev LV : Type := Int32 ⊕ (Int64 ⊕ Option Tg)
abbrev vI (x : Int32) : LV := .inl x
abbrev vL (x : Int64) : LV := .inr (.inl x)
abbrev vR (o : Option Tg) : LV := .inr (.inr o)
/-- a cell: an object (class, fields) or a row (kind, length, what it holds) -/
abbrev LC : Type := (Nat × List LV) ⊕ (Nat × Nat × ((Nat → Int32) ⊕ ((Nat → Int64) ⊕ (Nat → Option Tg))))
abbrev cO (ci : Nat) (fs : List LV) : LC := .inl (ci, fs)
abbrev cI (k n : Nat) (f : Nat → Int32) : LC := .inr (k, n, .inl f)
abbrev cL (k n : Nat) (f : Nat → Int64) : LC := .inr (k, n, .inr (.inl f))
abbrev cQ (k n : Nat) (f : Nat → Option Tg) : LC := .inr (k, n, .inr (.inr f))
abbrev LH : Type := Tg → Option LC
def hup (h : LH) (t : Tg) (c : LC) : LH := fun u => if u = t then some c else h u
theorem hup_s {h : LH} {t : Tg} {c : LC} : hup h t c t = some c := if_pos rfl
theorem hup_n {h : LH} {t u : Tg} {c : LC} (e : u ≠ t) : hup h t c u = h u := if_neg e
def phR (ψ : Tg → Nat) (o : Option Tg) : Value := va_rf (o.map ψ)
def ph (ψ : Tg → Nat) : LV → Value
  | .inl x => .int x
  | .inr (.inl x) => .long x
  | .inr (.inr o) => phR ψ o
abbrev tScr : Tg := (0, 0)
def Lt (h : LH) (t : Tg) : Prop := h t ≠ none ∨ t = tScr
def Lv (h : LH) : LV → Prop
  | .inr (.inr (some t)) => Lt h t
  | _ => True
def Lc (h : LH) : LC → Prop
  | .inl o => ∀ v ∈ o.2, Lv h v
  | .inr (_, _, .inr (.inr f)) => ∀ j t, f j = some t → Lt h t
  | .inr _ => True
def aTy : Nat → FieldType := fun k => match k with
  | 0 => .int
  | 1 => .boolean
  | 2 => .long
  | 3 => .object RX1
  | 4 => .object RX6
  | 5 => .object RX0
  | _ => .object RX2
def tysL (tc : Nat → ClassId) : List (ClassId × FieldType) := (List.range 7).map (fun k => (tc k, aTy k))
theorem tysL_at (tc : Nat → ClassId) {k : Nat} (hk : k < 7) : (tysL tc)[k]? = some (tc k, aTy k) := by
  simp [tysL, hk]
def conc (tc : Nat → ClassId) (ψ : Tg → Nat) : LC → va_E
  | .inl o => .inr (o.1, o.2.map (ph ψ))
  | .inr (k, n, .inl f) => .inl (tc k, n, .inl f)
  | .inr (k, n, .inr (.inl f)) => .inl (tc k, n, .inr (.inl f))
  | .inr (k, n, .inr (.inr f)) => .inl (tc k, n, .inr (.inr (.inr (.inr (fun j => (f j).map ψ)))))
/-- what stays through the whole run: launch, class ids, ids of the rows' classes, the heap at the start, the script -/
abbrev GX : Type := Launch × va_G × (Nat → ClassId) × Heap × Nat × Nat × (Nat → Int32)
abbrev xl (X : GX) : Launch := X.1
abbrev xD (X : GX) : va_G := X.2.1
abbrev xtc (X : GX) : Nat → ClassId := X.2.2.1
abbrev xB (X : GX) : Heap := X.2.2.2.1
abbrev xb (X : GX) : Nat := X.2.2.2.2.1
abbrev xL (X : GX) : Nat := X.2.2.2.2.2.1
abbrev xs (X : GX) : Nat → Int32 := X.2.2.2.2.2.2
abbrev xA (X : GX) : Addr → Prop := fun q => (xB X).size ≤ q
def HR (X : GX) (ψ : Tg → Nat) (h : LH) (H : Heap) : Prop :=
  (∀ t c, h t = some c → va_at (xD X) vwCl (ψ t, conc (xtc X) ψ c) H ∧ (xB X).size ≤ ψ t ∧ Lc h c) ∧
  (∀ t t', Lt h t → Lt h t' → ψ t = ψ t' → t = t') ∧ ψ tScr = xb X ∧ h tScr = none ∧ xb X < (xB X).size ∧
  (xB X).size ≤ H.size ∧ ∀ q, q < (xB X).size → H[q]? = (xB X)[q]?
def ext (ψ ψ' : Tg → Nat) (h h' : LH) : Prop := ∀ t, Lt h t → ψ' t = ψ t ∧ Lt h' t
theorem ext_rf {ψ : Tg → Nat} {h : LH} : ext ψ ψ h h := fun _ hl => ⟨rfl, hl⟩
theorem ext_tr {ψ ψ' ψ'' : Tg → Nat} {h h' h'' : LH} (a : ext ψ ψ' h h') (b : ext ψ' ψ'' h' h'') : ext ψ ψ'' h h'' := fun t hl => ⟨(b t (a t hl).2).1.trans (a t hl).1, (b t (a t hl).2).2⟩
theorem ext_ph {ψ ψ' : Tg → Nat} {h h' : LH} (a : ext ψ ψ' h h') {v : LV} (hv : Lv h v) : ph ψ' v = ph ψ v := by
  match v, hv with
  | .inl x, _ => rfl
  | .inr (.inl x), _ => rfl
  | .inr (.inr none), _ => rfl
  | .inr (.inr (some t)), hv => show Value.ref (ψ' t) = Value.ref (ψ t); rw [(a t hv).1]
theorem ext_lv {ψ ψ' : Tg → Nat} {h h' : LH} (a : ext ψ ψ' h h') {v : LV} (hv : Lv h v) : Lv h' v := by
  match v, hv with
  | .inl x, _ => trivial
  | .inr (.inl x), _ => trivial
  | .inr (.inr none), _ => trivial
  | .inr (.inr (some t)), hv => exact (a t hv).2
theorem ext_map {ψ ψ' : Tg → Nat} {h h' : LH} (a : ext ψ ψ' h h') {st : List LV} (hv : ∀ v ∈ st, Lv h v) : st.map (ph ψ') = st.map (ph ψ) := List.map_congr_left (fun v hm => ext_ph a (hv v hm))
/-- the locals -/
def LRel (ψ : Tg → Nat) (ls : List (Option LV)) (la : Array Slot) (nL : Nat) : Prop := la.size = nL ∧ lv_wf la ∧ ∀ (i : Nat) (v : LV), ls[i]? = some (some v) → la[i]? = some (Slot.val (ph ψ v)) ∧ (ph ψ v).category = 1
theorem LRel_ext {ψ ψ' : Tg → Nat} {h h' : LH} (a : ext ψ ψ' h h') {ls : List (Option LV)} (hv : ∀ v, some v ∈ ls → Lv h v) {la : Array Slot} {nL : Nat} (r : LRel ψ ls la nL) : LRel ψ' ls la nL :=
  ⟨r.1, r.2.1, fun i v hi => by rw [ext_ph a (hv v (List.mem_of_getElem? hi))]; exact r.2.2 i v hi⟩
/-- the tables' words that keep under warming; those that have laws of their own -/
def GW : List Cond := lw_tbl.filter goodWord
def mvWord : Cond → Bool
  | .methodLinkNest .. => true
  | .declares _ => true
  | .castable .. => true
  | _ => false
def EW : List Cond := lw_tbl.filter mvWord
theorem mv_moves {w : Cond} (hw : mvWord w = true) {s U : State} (hW : s.WarmedH U.vm) (h : va_Nw w s) : va_Nw w U := by
  cases w <;> first
    | exact va_Nw.warmM hW h
    | exact va_Nw.warmD hW h
    | exact va_Nw.warmC hW h
    | (simp [mvWord] at hw; done)
theorem mv_tabs {w : Cond} (hw : mvWord w = true) : w.onTables = true := by
  cases w <;> first
    | rfl
    | (simp [mvWord] at hw; done)
def aoL : List String := [RX1, RX6, RX0, RX2]
abbrev exN (k : Nat) : String := if k = 0 then "java/lang/IllegalStateException" else if k = 1 then "java/lang/IllegalArgumentException" else "java/lang/IndexOutOfBoundsException"
def ncL : List (String × String) := [(exN 0, exN 1), (exN 0, exN 2), (exN 1, exN 0), (exN 1, exN 2), (exN 2, exN 0), (exN 2, exN 1)]
/-- what the tables and the statics say, in any state of the run -/
def KK (X : GX) (U : State) : Prop :=
  va_K (xD X) vwCl (tysL (xtc X)) U ∧ (∀ q ∈ strL, ∃ a, vk_R RX7 q.1 q.2 a U) ∧ (∀ w ∈ EW, va_Nw w U) ∧ (∀ C ∈ aoL, va_AO C U) ∧ (∀ q ∈ ncL, va_Nc q.1 q.2 U) ∧
  vx_Zq Bundle.tN "UNASSIGNED_STACK" Bundle.steD (xA X) U (xB X) ∧ vx_Zq Bundle.tN "SUPPRESSED_SENTINEL" Bundle.listD (xA X) U (xB X) ∧ va_X (xb X) (xL X) (xs X) U (xB X) ∧ (xl X).stackTraces = false
theorem KK.warm {X : GX} {s U : State} (hW : s.WarmedH U.vm) (h : KK X s) : KK X U := by
  obtain ⟨h1, h2, h3, h4, h5, h6, h7, h8, h9⟩ := h
  have hv : s.vm.Alike U.vm := hW.alike
  exact ⟨va_K.moved hv h1, fun q hq => ⟨_, vk_R.warm hW (h2 q hq).choose_spec⟩, fun w hw => mv_moves (List.mem_filter.mp hw).2 hW (h3 w hw), fun C hC => va_AO.moved hv (h4 C hC), fun q hq => va_Nc.moved hv (h5 q hq), vx_Zq.moved hv h6, vx_Zq.moved hv h7, va_X.moved hv h8, h9⟩
/-- a method: name, code, locals, what it returns, its handlers, its room -/
abbrev MI : Type := MethodName × ByteArray × Nat × Option FieldType × List (Nat × Nat × Nat × Nat) × Room
abbrev mN (M : MI) : MethodName := M.1
abbrev mC (M : MI) : ByteArray := M.2.1
abbrev mL (M : MI) : Nat := M.2.2.1
abbrev mT (M : MI) : Option FieldType := M.2.2.2.1
abbrev mH (M : MI) : List (Nat × Nat × Nat × Nat) := M.2.2.2.2.1
abbrev mR (M : MI) : Room := M.2.2.2.2.2
def wsO (M : MI) : List Cond := (if (mH M).isEmpty then Cond.code (mN M) (mC M) (mL M) (mT M) else Cond.codeWith (mN M) (mC M) (mL M) (mT M) (mH M)) :: GW
/-- how a method ends: it returns, or throws an exception of the kind k -/
abbrev LO : Type := Option LV ⊕ Nat
abbrev rt (v : LV) : LO := .inl (some v)
abbrev rv : LO := .inl none
def QR (X : GX) (ψ0 : Tg → Nat) (h0 : LH) (Q : LO → LH → Prop) : Array Value → State → Outcome → State → Prop := fun _ _ o t =>
  ∃ (v : Option LV) (h : LH) (ψ : Tg → Nat), o = .returned (v.map (ph ψ)) ∧ Q (.inl v) h ∧ HR X ψ h t.heap ∧ ext ψ0 ψ h0 h ∧ ∀ w ∈ v, Lv h w
def QX (X : GX) (ψ0 : Tg → Nat) (h0 : LH) (Q : LO → LH → Prop) : String → State → State → Prop := fun E _ t =>
  ∃ (k : Nat) (h : LH) (ψ : Tg → Nat), E = exN k ∧ Q (.inr k) h ∧ HR X ψ h t.heap ∧ ext ψ0 ψ h0 h
/-- a method's contract -/
def CT (X : GX) (M : MI) (as : List LV) (h : LH) (Q : LO → LH → Prop) : Prop :=
  ∀ ψ : Tg → Nat, vx_Met (xl X) (mN M) (wsO M) (mR M) (va_Pc (as.map (ph ψ)) (fun U => KK X U ∧ HR X ψ h U.heap ∧ ∀ v ∈ as, Lv h v)) (QR X ψ h Q) (QX X ψ h Q) (mR M).cells (mR M).slots (xA X)
def FOK (X : GX) (M : MI) (p : Program) (R : Room) (s : State) (m : MethodId) (args : Array Value) (meth : Method) (c : Code) : Prop :=
  p.tables.exec = Jvm.exec ∧ c.code = mC M ∧ c.maxLocals = mL M ∧ meth.sig.returnType = mT M ∧ meth.locks = false ∧ s.vm.findClass (mN M).cls = some m.cls ∧ (∀ w ∈ GW, w.before args s = true) ∧ KK X s ∧ R = mR M ∧ c.exceptionTable.toList = tableOf (mH M) ∧ meth.name = (mN M).name ∧ (xB X).size ≤ s.heap.size ∧ ∀ q, q < (xB X).size → s.heap[q]? = (xB X)[q]?
/-- the frame of M at pc: it comes to an end with Q; k cells and n slots may still be made -/
def J (X : GX) (M : MI) (pc : Nat) (ls : List (Option LV)) (st : List LV) (h : LH) (k n : Nat) (Q : LO → LH → Prop) : Prop :=
  ∀ (p : Program) (e : Env) (R : Room) (s : State) (m : MethodId) (args : Array Value) (below : List Frame) (meth : Method) (c : Code) (ψ0 : Tg → Nat) (h0 : LH), FOK X M p R s m args meth c →
  ∀ (ψ : Tg → Nat) (H : Heap) (locs : List Loc) (cells slots : Nat) (la : Array Slot), HR X ψ h H → ext ψ0 ψ h0 h → LRel ψ ls la (mL M) → (∀ v ∈ st, Lv h v) → (∀ v, some v ∈ ls → Lv h v) → (∀ z ∈ locs, xA X z.base) → cells + k ≤ (mR M).cells → slots + n ≤ (mR M).slots →
    W p (xl X) e R s m args below meth c H locs cells slots (vx_MQ below (QR X ψ0 h0 Q) (QX X ψ0 h0 Q) args s (mR M).cells (mR M).slots (xA X)) (F0 m pc la (st.map (ph ψ)))
theorem CT.mono {X : GX} {M : MI} {as : List LV} {h : LH} {Q Q' : LO → LH → Prop} (hq : ∀ o h', Q o h' → Q' o h') (hc : CT X M as h Q) : CT X M as h Q' := by
  intro ψ p e ha hcas hck s m args below hf happ hP hK
  obtain ⟨n, o, h1, h2, h3, h4⟩ := hc ψ p e ha hcas hck s m args below hf happ hP hK
  refine ⟨n, o, h1, h2, h3, ?_⟩
  rcases h4 with ⟨⟨v, h', ψ', e1, e2, e3⟩, L⟩ | ⟨q, e0, E, ce, L, ⟨k, h', ψ', e1, e2, e3⟩, r⟩
  · exact Or.inl ⟨⟨v, h', ψ', e1, hq _ _ e2, e3⟩, L⟩
  · exact Or.inr ⟨q, e0, E, ce, L, ⟨k, h', ψ', e1, hq _ _ e2, e3⟩, r⟩
/-- a method that throws nothing -/
def rQ (P : Option LV → LH → Prop) : LO → LH → Prop := fun o h => match o with
  | .inl v => P v h
  | .inr _ => False
theorem CT.met {X : GX} {M : MI} {as : List LV} {h : LH} {P : Option LV → LH → Prop} (hc : CT X M as h (rQ P)) (ψ : Tg → Nat) :
    Met (xl X) (mN M) (wsO M) (mR M) (va_Pc (as.map (ph ψ)) (fun U => KK X U ∧ HR X ψ h U.heap ∧ ∀ v ∈ as, Lv h v)) (QR X ψ h (rQ P)) (mR M).cells (mR M).slots (xA X) := by
  intro p e ha hcas hck s m args below hf happ hP hK
  obtain ⟨n, o, h1, h2, h3, h4⟩ := hc ψ p e ha hcas hck s m args below hf happ hP hK
  refine ⟨n, o, h1, h2, h3, ?_⟩
  rcases h4 with ⟨hq, L⟩ | ⟨q, e0, E, ce, L, ⟨k, h', ψ', e1, e2, e3⟩, r⟩
  · exact ⟨hq, L⟩
  · exact e2.elim
end
section
/-! RULES OF J THAT DON'T TOUCH THE HEAP -/
def c1 (v : LV) : Bool := match v with
  | .inr (.inl _) => false
  | _ => true
theorem c1_cat {ψ : Tg → Nat} {v : LV} (h : c1 v = true) : (ph ψ v).category = 1 := by
  match v, h with
  | .inl x, _ => rfl
  | .inr (.inr none), _ => rfl
  | .inr (.inr (some t)), _ => rfl
def toL (ψ : Tg → Nat) (ls : List (Option LV)) : List (Nat × Value) := (List.range ls.length).filterMap (fun j => match ls[j]? with
  | some (some v) => some (j, ph ψ v)
  | _ => none)
theorem toL_in {ψ : Tg → Nat} {ls : List (Option LV)} {j : Nat} {v : LV} (h : ls[j]? = some (some v)) : (j, ph ψ v) ∈ toL ψ ls := by
  refine List.mem_filterMap.mpr ⟨j, List.mem_range.mpr (List.getElem?_eq_some_iff.mp h).1, ?_⟩
  rw [h]
theorem toL_of {ψ : Tg → Nat} {ls : List (Option LV)} {q : Nat × Value} (h : q ∈ toL ψ ls) : ∃ v, ls[q.1]? = some (some v) ∧ q.2 = ph ψ v := by
  obtain ⟨j, hj, he⟩ := List.mem_filterMap.mp h
  split at he
  next v hv => cases he; exact ⟨v, hv, rfl⟩
  next => cases he
theorem LRel_has {ψ : Tg → Nat} {ls : List (Option LV)} {la : Array Slot} {nL : Nat} (r : LRel ψ ls la nL) : lv_has la nL (toL ψ ls) := by
  refine ⟨r.1, r.2.1, fun q hq => ?_⟩
  obtain ⟨v, h1, h2⟩ := toL_of hq
  rw [h2]
  exact (r.2.2 q.1 v h1).1
theorem LRel_set {ψ : Tg → Nat} {ls : List (Option LV)} {la la' : Array Slot} {nL i : Nat} {v : LV} (hv : c1 v = true) (r : LRel ψ ls la nL)
    (h : lv_has la' nL ((i, ph ψ v) :: (toL ψ ls).filter (fun q => !(q.1 == i) && !(q.1 + 1 == i && q.2.category == 2)))) : LRel ψ (ls.set i (some v)) la' nL := by
  refine ⟨h.1, h.2.1, fun j w hw => ?_⟩
  by_cases hj : j = i
  · subst hj
    have hl : j < ls.length := by
      have := (List.getElem?_eq_some_iff.mp hw).1
      simpa using this
    rw [List.getElem?_set_self hl] at hw
    cases hw
    exact ⟨h.2.2 (j, ph ψ v) List.mem_cons_self, c1_cat hv⟩
  · rw [List.getElem?_set_ne (Ne.symm hj)] at hw
    have hc := (r.2.2 j w hw).2
    exact ⟨h.2.2 (j, ph ψ w) (List.mem_cons_of_mem _ (List.mem_filter.mpr ⟨toL_in hw, by simp [hj, hc]⟩)), hc⟩
theorem lv_cons {h : LH} {v : LV} {st : List LV} (hv : Lv h v) (hs : ∀ v ∈ st, Lv h v) : ∀ w ∈ v :: st, Lv h w := List.forall_mem_cons.mpr ⟨hv, hs⟩
theorem lv_set_in {h : LH} {ls : List (Option LV)} {i : Nat} {v : LV} (hv : Lv h v) (hl : ∀ w, some w ∈ ls → Lv h w) : ∀ w, some w ∈ ls.set i (some v) → Lv h w := by
  intro w hw
  rcases List.mem_or_eq_of_mem_set hw with h1 | h1
  · exact hl w h1
  · cases h1; exact hv
section JR
variable {X : GX} {M : MI} {pc : Nat} {ls : List (Option LV)} {st : List LV} {h : LH} {k n : Nat} {Q : LO → LH → Prop}
theorem J_le {k' n' : Nat} (h1 : k' ≤ k) (h2 : n' ≤ n) (kk : J X M pc ls st h k' n' Q) : J X M pc ls st h k n Q := by
  intro p e R s m args below meth c ψ0 h0 F ψ H locs cells slots la hR hE hL hs hl hz hc hn
  exact kk p e R s m args below meth c ψ0 h0 F ψ H locs cells slots la hR hE hL hs hl hz (by omega) (by omega)
theorem J_mono {Q' : LO → LH → Prop} (hq : ∀ o h', Q' o h' → Q o h') (kk : J X M pc ls st h k n Q') : J X M pc ls st h k n Q := by
  intro p e R s m args below meth c ψ0 h0 F ψ H locs cells slots la hR hE hL hs hl hz hc hn
  intro T hT Y
  obtain ⟨t, a, o, b1, b2, b3⟩ := kk p e R s m args below meth c ψ0 h0 F ψ H locs cells slots la hR hE hL hs hl hz hc hn T hT Y
  refine ⟨t, a, o, b1, b2, ?_⟩
  rcases b3 with ⟨⟨v, h', ψ', e1, e2, e3⟩, L⟩ | ⟨q, e0, E, ce, L, ⟨k, h', ψ', e1, e2, e3⟩, r⟩
  · exact Or.inl ⟨⟨v, h', ψ', e1, hq _ _ e2, e3⟩, L⟩
  · exact Or.inr ⟨q, e0, E, ce, L, ⟨k, h', ψ', e1, hq _ _ e2, e3⟩, r⟩
/-- forget locals, in any way -/
theorem J_ls {ls' : List (Option LV)} (hh : ∀ (i : Nat) (v : LV), ls'[i]? = some (some v) → ls[i]? = some (some v)) (kk : J X M pc ls' st h k n Q) : J X M pc ls st h k n Q := by
  intro p e R s m args below meth c ψ0 h0 F ψ H locs cells slots la hR hE hL hs hl hz hc hn
  refine kk p e R s m args below meth c ψ0 h0 F ψ H locs cells slots la hR hE ⟨hL.1, hL.2.1, fun i v hv => hL.2.2 i v (hh i v hv)⟩ hs (fun v hv => ?_) hz hc hn
  obtain ⟨i, hi⟩ := List.getElem?_of_mem hv
  exact hl v (List.mem_of_getElem? (hh i v hi))

theorem J_iconst {z : Int} {x : Int32} (d : decode (mC M) pc = .ok (.iconst z, 1)) (hv : Int32.ofInt z = x) (kk : J X M (pc + 1) ls (vI x :: st) h k n Q) : J X M pc ls st h k n Q := by
  intro p e R s m args below meth c ψ0 h0 F ψ H locs cells slots la hR hE hL hs hl hz hc hn
  exact lv_iconst F.1 F.2.1 d hv (kk p e R s m args below meth c ψ0 h0 F ψ H locs cells slots la hR hE hL (lv_cons trivial hs) hl hz hc hn)
theorem J_bipush {z : Int} {x : Int32} (d : decode (mC M) pc = .ok (.bipush z, 2)) (hv : (Int8.ofInt z).toInt32 = x) (kk : J X M (pc + 2) ls (vI x :: st) h k n Q) : J X M pc ls st h k n Q := by
  intro p e R s m args below meth c ψ0 h0 F ψ H locs cells slots la hR hE hL hs hl hz hc hn
  exact lv_bipush F.1 F.2.1 d hv (kk p e R s m args below meth c ψ0 h0 F ψ H locs cells slots la hR hE hL (lv_cons trivial hs) hl hz hc hn)
theorem J_sipush {z : Int} {x : Int32} (d : decode (mC M) pc = .ok (.sipush z, 3)) (hv : (Int16.ofInt z).toInt32 = x) (kk : J X M (pc + 3) ls (vI x :: st) h k n Q) : J X M pc ls st h k n Q := by
  intro p e R s m args below meth c ψ0 h0 F ψ H locs cells slots la hR hE hL hs hl hz hc hn
  exact lv_sipush F.1 F.2.1 d hv (kk p e R s m args below meth c ψ0 h0 F ψ H locs cells slots la hR hE hL (lv_cons trivial hs) hl hz hc hn)
theorem J_lconst {z : Fin 2} {x : Int64} (d : decode (mC M) pc = .ok (.lconst z, 1)) (hv : Int64.ofNat (z : Nat) = x) (kk : J X M (pc + 1) ls (vL x :: st) h k n Q) : J X M pc ls st h k n Q := by
  intro p e R s m args below meth c ψ0 h0 F ψ H locs cells slots la hR hE hL hs hl hz hc hn
  exact lv_lconst F.1 F.2.1 d hv (kk p e R s m args below meth c ψ0 h0 F ψ H locs cells slots la hR hE hL (lv_cons trivial hs) hl hz hc hn)
theorem J_null (d : decode (mC M) pc = .ok (.aconst_null, 1)) (kk : J X M (pc + 1) ls (vR none :: st) h k n Q) : J X M pc ls st h k n Q := by
  intro p e R s m args below meth c ψ0 h0 F ψ H locs cells slots la hR hE hL hs hl hz hc hn
  exact lv_null F.1 F.2.1 d (kk p e R s m args below meth c ψ0 h0 F ψ H locs cells slots la hR hE hL (lv_cons trivial hs) hl hz hc hn)
theorem J_iload_n {q : Fin 4} {i : Nat} {x : Int32} (d : decode (mC M) pc = .ok (.iload_n q, 1)) (hi : (q : Nat) = i) (hv : ls[i]? = some (some (vI x))) (kk : J X M (pc + 1) ls (vI x :: st) h k n Q) : J X M pc ls st h k n Q := by
  intro p e R s m args below meth c ψ0 h0 F ψ H locs cells slots la hR hE hL hs hl hz hc hn
  exact lv_iload_n F.1 F.2.1 d hi (hL.2.2 i _ hv).1 (kk p e R s m args below meth c ψ0 h0 F ψ H locs cells slots la hR hE hL (lv_cons trivial hs) hl hz hc hn)
theorem J_iload {i : Nat} {x : Int32} (d : decode (mC M) pc = .ok (.iload i, 2)) (hv : ls[i]? = some (some (vI x))) (kk : J X M (pc + 2) ls (vI x :: st) h k n Q) : J X M pc ls st h k n Q := by
  intro p e R s m args below meth c ψ0 h0 F ψ H locs cells slots la hR hE hL hs hl hz hc hn
  exact lv_iload F.1 F.2.1 d (hL.2.2 i _ hv).1 (kk p e R s m args below meth c ψ0 h0 F ψ H locs cells slots la hR hE hL (lv_cons trivial hs) hl hz hc hn)
theorem J_aload_n {q : Fin 4} {i : Nat} {r : Option Tg} (d : decode (mC M) pc = .ok (.aload_n q, 1)) (hi : (q : Nat) = i) (hv : ls[i]? = some (some (vR r))) (kk : J X M (pc + 1) ls (vR r :: st) h k n Q) : J X M pc ls st h k n Q := by
  intro p e R s m args below meth c ψ0 h0 F ψ H locs cells slots la hR hE hL hs hl hz hc hn
  have h1 := hL.2.2 i _ hv
  have h2 := hl _ (List.mem_of_getElem? hv)
  have h3 := kk p e R s m args below meth c ψ0 h0 F ψ H locs cells slots la hR hE hL (lv_cons h2 hs) hl hz hc hn
  cases r with
  | none => exact lv_aload_nN F.1 F.2.1 d hi h1.1 h3
  | some t => exact lv_aload_n F.1 F.2.1 d hi h1.1 h3
theorem J_aload {i : Nat} {r : Option Tg} (d : decode (mC M) pc = .ok (.aload i, 2)) (hv : ls[i]? = some (some (vR r))) (kk : J X M (pc + 2) ls (vR r :: st) h k n Q) : J X M pc ls st h k n Q := by
  intro p e R s m args below meth c ψ0 h0 F ψ H locs cells slots la hR hE hL hs hl hz hc hn
  have h1 := hL.2.2 i _ hv
  have h2 := hl _ (List.mem_of_getElem? hv)
  have h3 := kk p e R s m args below meth c ψ0 h0 F ψ H locs cells slots la hR hE hL (lv_cons h2 hs) hl hz hc hn
  cases r with
  | none => exact lv_aloadN F.1 F.2.1 d h1.1 h3
  | some t => exact lv_aload F.1 F.2.1 d h1.1 h3
theorem J_istore_n {q : Fin 4} {i : Nat} {x : Int32} (d : decode (mC M) pc = .ok (.istore_n q, 1)) (hi : (q : Nat) = i) (hi2 : i < mL M) (kk : J X M (pc + 1) (ls.set i (some (vI x))) st h k n Q) : J X M pc ls (vI x :: st) h k n Q := by
  intro p e R s m args below meth c ψ0 h0 F ψ H locs cells slots la hR hE hL hs hl hz hc hn
  exact lv_istore_n F.1 F.2.1 d hi (LRel_has hL) hi2 rfl (fun la hq => kk p e R s m args below meth c ψ0 h0 F ψ H locs cells slots la hR hE (LRel_set (v := vI x) rfl hL hq) (fun v hv => hs v (List.mem_cons_of_mem _ hv)) (lv_set_in (v := vI x) trivial hl) hz hc hn)
theorem J_istore {i : Nat} {x : Int32} (d : decode (mC M) pc = .ok (.istore i, 2)) (hi2 : i < mL M) (kk : J X M (pc + 2) (ls.set i (some (vI x))) st h k n Q) : J X M pc ls (vI x :: st) h k n Q := by
  intro p e R s m args below meth c ψ0 h0 F ψ H locs cells slots la hR hE hL hs hl hz hc hn
  exact lv_istore F.1 F.2.1 d (LRel_has hL) hi2 rfl (fun la hq => kk p e R s m args below meth c ψ0 h0 F ψ H locs cells slots la hR hE (LRel_set (v := vI x) rfl hL hq) (fun v hv => hs v (List.mem_cons_of_mem _ hv)) (lv_set_in (v := vI x) trivial hl) hz hc hn)
theorem J_astore_n {q : Fin 4} {i : Nat} {r : Option Tg} (d : decode (mC M) pc = .ok (.astore_n q, 1)) (hi : (q : Nat) = i) (hi2 : i < mL M) (kk : J X M (pc + 1) (ls.set i (some (vR r))) st h k n Q) : J X M pc ls (vR r :: st) h k n Q := by
  intro p e R s m args below meth c ψ0 h0 F ψ H locs cells slots la hR hE hL hs hl hz hc hn
  have h2 := hs _ List.mem_cons_self
  have hs' := fun v hv => hs v (List.mem_cons_of_mem _ hv)
  cases r with
  | none => exact lv_astore_nN F.1 F.2.1 d hi (LRel_has hL) hi2 rfl (fun la hq => kk p e R s m args below meth c ψ0 h0 F ψ H locs cells slots la hR hE (LRel_set (v := vR none) rfl hL hq) hs' (lv_set_in h2 hl) hz hc hn)
  | some t => exact lv_astore_n F.1 F.2.1 d hi (LRel_has hL) hi2 rfl (fun la hq => kk p e R s m args below meth c ψ0 h0 F ψ H locs cells slots la hR hE (LRel_set (v := vR (some t)) rfl hL hq) hs' (lv_set_in h2 hl) hz hc hn)
theorem J_astore {i : Nat} {r : Option Tg} (d : decode (mC M) pc = .ok (.astore i, 2)) (hi2 : i < mL M) (kk : J X M (pc + 2) (ls.set i (some (vR r))) st h k n Q) : J X M pc ls (vR r :: st) h k n Q := by
  intro p e R s m args below meth c ψ0 h0 F ψ H locs cells slots la hR hE hL hs hl hz hc hn
  have h2 := hs _ List.mem_cons_self
  have hs' := fun v hv => hs v (List.mem_cons_of_mem _ hv)
  cases r with
  | none => exact lv_astoreN F.1 F.2.1 d (LRel_has hL) hi2 rfl (fun la hq => kk p e R s m args below meth c ψ0 h0 F ψ H locs cells slots la hR hE (LRel_set (v := vR none) rfl hL hq) hs' (lv_set_in h2 hl) hz hc hn)
  | some t => exact lv_astore F.1 F.2.1 d (LRel_has hL) hi2 rfl (fun la hq => kk p e R s m args below meth c ψ0 h0 F ψ H locs cells slots la hR hE (LRel_set (v := vR (some t)) rfl hL hq) hs' (lv_set_in h2 hl) hz hc hn)
theorem J_iinc {i : Nat} {z : Int} {x y : Int32} (d : decode (mC M) pc = .ok (.iinc i z, 3)) (hv : ls[i]? = some (some (vI x))) (hy : x + Int32.ofInt z = y) (hi2 : i < mL M) (kk : J X M (pc + 3) (ls.set i (some (vI y))) st h k n Q) : J X M pc ls st h k n Q := by
  intro p e R s m args below meth c ψ0 h0 F ψ H locs cells slots la hR hE hL hs hl hz hc hn
  have hm : (i, ph ψ (vI x)) ∈ toL ψ ls := toL_in hv
  obtain ⟨q, hq⟩ := List.getElem?_of_mem hm
  exact lv_iinc F.1 F.2.1 d (LRel_has hL) hq hy hi2 rfl (fun la hq => kk p e R s m args below meth c ψ0 h0 F ψ H locs cells slots la hR hE (LRel_set (v := vI y) rfl hL hq) hs (lv_set_in (v := vI y) trivial hl) hz hc hn)
theorem J_iadd {x y : Int32} (d : decode (mC M) pc = .ok (.iadd, 1)) (kk : J X M (pc + 1) ls (vI (x + y) :: st) h k n Q) : J X M pc ls (vI y :: vI x :: st) h k n Q := by
  intro p e R s m args below meth c ψ0 h0 F ψ H locs cells slots la hR hE hL hs hl hz hc hn
  exact lv_iadd F.1 F.2.1 d (kk p e R s m args below meth c ψ0 h0 F ψ H locs cells slots la hR hE hL (lv_cons trivial (fun v hv => hs v (List.mem_cons_of_mem _ (List.mem_cons_of_mem _ hv)))) hl hz hc hn)
theorem J_isub {x y : Int32} (d : decode (mC M) pc = .ok (.isub, 1)) (kk : J X M (pc + 1) ls (vI (x - y) :: st) h k n Q) : J X M pc ls (vI y :: vI x :: st) h k n Q := by
  intro p e R s m args below meth c ψ0 h0 F ψ H locs cells slots la hR hE hL hs hl hz hc hn
  exact lv_isub F.1 F.2.1 d (kk p e R s m args below meth c ψ0 h0 F ψ H locs cells slots la hR hE hL (lv_cons trivial (fun v hv => hs v (List.mem_cons_of_mem _ (List.mem_cons_of_mem _ hv)))) hl hz hc hn)
theorem J_imul {x y : Int32} (d : decode (mC M) pc = .ok (.imul, 1)) (kk : J X M (pc + 1) ls (vI (x * y) :: st) h k n Q) : J X M pc ls (vI y :: vI x :: st) h k n Q := by
  intro p e R s m args below meth c ψ0 h0 F ψ H locs cells slots la hR hE hL hs hl hz hc hn
  exact lv_imul F.1 F.2.1 d (kk p e R s m args below meth c ψ0 h0 F ψ H locs cells slots la hR hE hL (lv_cons trivial (fun v hv => hs v (List.mem_cons_of_mem _ (List.mem_cons_of_mem _ hv)))) hl hz hc hn)
theorem J_idiv {x y : Int32} (d : decode (mC M) pc = .ok (.idiv, 1)) (hne : ¬ y = 0) (kk : J X M (pc + 1) ls (vI (x / y) :: st) h k n Q) : J X M pc ls (vI y :: vI x :: st) h k n Q := by
  intro p e R s m args below meth c ψ0 h0 F ψ H locs cells slots la hR hE hL hs hl hz hc hn
  exact lv_idiv F.1 F.2.1 d hne (kk p e R s m args below meth c ψ0 h0 F ψ H locs cells slots la hR hE hL (lv_cons trivial (fun v hv => hs v (List.mem_cons_of_mem _ (List.mem_cons_of_mem _ hv)))) hl hz hc hn)
theorem J_irem {x y : Int32} (d : decode (mC M) pc = .ok (.irem, 1)) (hne : ¬ y = 0) (kk : J X M (pc + 1) ls (vI (x - x / y * y) :: st) h k n Q) : J X M pc ls (vI y :: vI x :: st) h k n Q := by
  intro p e R s m args below meth c ψ0 h0 F ψ H locs cells slots la hR hE hL hs hl hz hc hn
  exact lv_irem F.1 F.2.1 d hne (kk p e R s m args below meth c ψ0 h0 F ψ H locs cells slots la hR hE hL (lv_cons trivial (fun v hv => hs v (List.mem_cons_of_mem _ (List.mem_cons_of_mem _ hv)))) hl hz hc hn)
theorem J_ishl {x y : Int32} (d : decode (mC M) pc = .ok (.ishl, 1)) (kk : J X M (pc + 1) ls (vI (x <<< (y &&& 31)) :: st) h k n Q) : J X M pc ls (vI y :: vI x :: st) h k n Q := by
  intro p e R s m args below meth c ψ0 h0 F ψ H locs cells slots la hR hE hL hs hl hz hc hn
  exact lv_ishl F.1 F.2.1 d (kk p e R s m args below meth c ψ0 h0 F ψ H locs cells slots la hR hE hL (lv_cons trivial (fun v hv => hs v (List.mem_cons_of_mem _ (List.mem_cons_of_mem _ hv)))) hl hz hc hn)
theorem J_ishr {x y : Int32} (d : decode (mC M) pc = .ok (.ishr, 1)) (kk : J X M (pc + 1) ls (vI (x >>> (y &&& 31)) :: st) h k n Q) : J X M pc ls (vI y :: vI x :: st) h k n Q := by
  intro p e R s m args below meth c ψ0 h0 F ψ H locs cells slots la hR hE hL hs hl hz hc hn
  exact lv_ishr F.1 F.2.1 d (kk p e R s m args below meth c ψ0 h0 F ψ H locs cells slots la hR hE hL (lv_cons trivial (fun v hv => hs v (List.mem_cons_of_mem _ (List.mem_cons_of_mem _ hv)))) hl hz hc hn)
theorem J_iand {x y : Int32} (d : decode (mC M) pc = .ok (.iand, 1)) (kk : J X M (pc + 1) ls (vI (x &&& y) :: st) h k n Q) : J X M pc ls (vI y :: vI x :: st) h k n Q := by
  intro p e R s m args below meth c ψ0 h0 F ψ H locs cells slots la hR hE hL hs hl hz hc hn
  exact lv_iand F.1 F.2.1 d (kk p e R s m args below meth c ψ0 h0 F ψ H locs cells slots la hR hE hL (lv_cons trivial (fun v hv => hs v (List.mem_cons_of_mem _ (List.mem_cons_of_mem _ hv)))) hl hz hc hn)
theorem J_ior {x y : Int32} (d : decode (mC M) pc = .ok (.ior, 1)) (kk : J X M (pc + 1) ls (vI (x ||| y) :: st) h k n Q) : J X M pc ls (vI y :: vI x :: st) h k n Q := by
  intro p e R s m args below meth c ψ0 h0 F ψ H locs cells slots la hR hE hL hs hl hz hc hn
  exact lv_ior F.1 F.2.1 d (kk p e R s m args below meth c ψ0 h0 F ψ H locs cells slots la hR hE hL (lv_cons trivial (fun v hv => hs v (List.mem_cons_of_mem _ (List.mem_cons_of_mem _ hv)))) hl hz hc hn)
theorem J_i2l {x : Int32} (d : decode (mC M) pc = .ok (.i2l, 1)) (kk : J X M (pc + 1) ls (vL x.toInt64 :: st) h k n Q) : J X M pc ls (vI x :: st) h k n Q := by
  intro p e R s m args below meth c ψ0 h0 F ψ H locs cells slots la hR hE hL hs hl hz hc hn
  exact lv_i2l F.1 F.2.1 d rfl (kk p e R s m args below meth c ψ0 h0 F ψ H locs cells slots la hR hE hL (lv_cons trivial (fun v hv => hs v (List.mem_cons_of_mem _ hv))) hl hz hc hn)
theorem J_lcmp {x y : Int64} (d : decode (mC M) pc = .ok (.lcmp, 1)) (kk : J X M (pc + 1) ls (vI (lg_cmp x y) :: st) h k n Q) : J X M pc ls (vL y :: vL x :: st) h k n Q := by
  intro p e R s m args below meth c ψ0 h0 F ψ H locs cells slots la hR hE hL hs hl hz hc hn
  exact W.lcmp F.1 F.2.1 d (kk p e R s m args below meth c ψ0 h0 F ψ H locs cells slots la hR hE hL (lv_cons trivial (fun v hv => hs v (List.mem_cons_of_mem _ (List.mem_cons_of_mem _ hv)))) hl hz hc hn)
/-- a number gets a simpler form -/
theorem J_eq {x y : Int32} (e : x = y) (kk : J X M pc ls (vI y :: st) h k n Q) : J X M pc ls (vI x :: st) h k n Q := e ▸ kk
theorem J_dup {v : LV} (d : decode (mC M) pc = .ok (.dup, 1)) (hv : c1 v = true) (kk : J X M (pc + 1) ls (v :: v :: st) h k n Q) : J X M pc ls (v :: st) h k n Q := by
  intro p e R s m args below meth c ψ0 h0 F ψ H locs cells slots la hR hE hL hs hl hz hc hn
  exact lv_dup F.1 F.2.1 d (c1_cat hv) (kk p e R s m args below meth c ψ0 h0 F ψ H locs cells slots la hR hE hL (lv_cons (hs _ List.mem_cons_self) hs) hl hz hc hn)
theorem J_pop {v : LV} (d : decode (mC M) pc = .ok (.pop, 1)) (hv : c1 v = true) (kk : J X M (pc + 1) ls st h k n Q) : J X M pc ls (v :: st) h k n Q := by
  intro p e R s m args below meth c ψ0 h0 F ψ H locs cells slots la hR hE hL hs hl hz hc hn
  exact lv_pop F.1 F.2.1 d (c1_cat hv) (kk p e R s m args below meth c ψ0 h0 F ψ H locs cells slots la hR hE hL (fun v hv => hs v (List.mem_cons_of_mem _ hv)) hl hz hc hn)
theorem J_dup2 {v w : LV} (d : decode (mC M) pc = .ok (.dup2, 1)) (hv : c1 v = true) (hw : c1 w = true) (kk : J X M (pc + 1) ls (v :: w :: v :: w :: st) h k n Q) : J X M pc ls (v :: w :: st) h k n Q := by
  intro p e R s m args below meth c ψ0 h0 F ψ H locs cells slots la hR hE hL hs hl hz hc hn
  exact lv_dup2_11 F.1 F.2.1 d (c1_cat hv) (c1_cat hw) (kk p e R s m args below meth c ψ0 h0 F ψ H locs cells slots la hR hE hL (lv_cons (hs _ List.mem_cons_self) (lv_cons (hs _ (List.mem_cons_of_mem _ List.mem_cons_self)) hs)) hl hz hc hn)
theorem J_goto {off : Int} {tgt : Nat} (d : decode (mC M) pc = .ok (.goto off, 3)) (ht : (pc : Int) + off = (tgt : Int)) (kk : J X M tgt ls st h k n Q) : J X M pc ls st h k n Q := by
  intro p e R s m args below meth c ψ0 h0 F ψ H locs cells slots la hR hE hL hs hl hz hc hn
  exact lv_goto F.1 F.2.1 d ht (kk p e R s m args below meth c ψ0 h0 F ψ H locs cells slots la hR hE hL hs hl hz hc hn)
theorem J_if_eq {x : Int32} {off : Int} {tgt : Nat} (d : decode (mC M) pc = .ok (.ifCond .eq off, 3)) (ht : (pc : Int) + off = (tgt : Int)) (kt : x = 0 → J X M tgt ls st h k n Q) (kf : ¬ x = 0 → J X M (pc + 3) ls st h k n Q) : J X M pc ls (vI x :: st) h k n Q := by
  intro p e R s m args below meth c ψ0 h0 F ψ H locs cells slots la hR hE hL hs hl hz hc hn
  exact lv_if_eq F.1 F.2.1 d ht (fun hq => (kt hq) p e R s m args below meth c ψ0 h0 F ψ H locs cells slots la hR hE hL (fun v hv => hs v (List.mem_cons_of_mem _ hv)) hl hz hc hn) (fun hq => (kf hq) p e R s m args below meth c ψ0 h0 F ψ H locs cells slots la hR hE hL (fun v hv => hs v (List.mem_cons_of_mem _ hv)) hl hz hc hn)
theorem J_ic_eq {x y : Int32} {off : Int} {tgt : Nat} (d : decode (mC M) pc = .ok (.if_icmp .eq off, 3)) (ht : (pc : Int) + off = (tgt : Int)) (kt : x = y → J X M tgt ls st h k n Q) (kf : ¬ x = y → J X M (pc + 3) ls st h k n Q) : J X M pc ls (vI y :: vI x :: st) h k n Q := by
  intro p e R s m args below meth c ψ0 h0 F ψ H locs cells slots la hR hE hL hs hl hz hc hn
  exact lv_icmp_eq F.1 F.2.1 d ht (fun hq => (kt hq) p e R s m args below meth c ψ0 h0 F ψ H locs cells slots la hR hE hL (fun v hv => hs v (List.mem_cons_of_mem _ (List.mem_cons_of_mem _ hv))) hl hz hc hn) (fun hq => (kf hq) p e R s m args below meth c ψ0 h0 F ψ H locs cells slots la hR hE hL (fun v hv => hs v (List.mem_cons_of_mem _ (List.mem_cons_of_mem _ hv))) hl hz hc hn)
theorem J_if_ne {x : Int32} {off : Int} {tgt : Nat} (d : decode (mC M) pc = .ok (.ifCond .ne off, 3)) (ht : (pc : Int) + off = (tgt : Int)) (kt : ¬ x = 0 → J X M tgt ls st h k n Q) (kf : x = 0 → J X M (pc + 3) ls st h k n Q) : J X M pc ls (vI x :: st) h k n Q := by
  intro p e R s m args below meth c ψ0 h0 F ψ H locs cells slots la hR hE hL hs hl hz hc hn
  exact lv_if_ne F.1 F.2.1 d ht (fun hq => (kt hq) p e R s m args below meth c ψ0 h0 F ψ H locs cells slots la hR hE hL (fun v hv => hs v (List.mem_cons_of_mem _ hv)) hl hz hc hn) (fun hq => (kf hq) p e R s m args below meth c ψ0 h0 F ψ H locs cells slots la hR hE hL (fun v hv => hs v (List.mem_cons_of_mem _ hv)) hl hz hc hn)
theorem J_ic_ne {x y : Int32} {off : Int} {tgt : Nat} (d : decode (mC M) pc = .ok (.if_icmp .ne off, 3)) (ht : (pc : Int) + off = (tgt : Int)) (kt : ¬ x = y → J X M tgt ls st h k n Q) (kf : x = y → J X M (pc + 3) ls st h k n Q) : J X M pc ls (vI y :: vI x :: st) h k n Q := by
  intro p e R s m args below meth c ψ0 h0 F ψ H locs cells slots la hR hE hL hs hl hz hc hn
  exact lv_icmp_ne F.1 F.2.1 d ht (fun hq => (kt hq) p e R s m args below meth c ψ0 h0 F ψ H locs cells slots la hR hE hL (fun v hv => hs v (List.mem_cons_of_mem _ (List.mem_cons_of_mem _ hv))) hl hz hc hn) (fun hq => (kf hq) p e R s m args below meth c ψ0 h0 F ψ H locs cells slots la hR hE hL (fun v hv => hs v (List.mem_cons_of_mem _ (List.mem_cons_of_mem _ hv))) hl hz hc hn)
theorem J_if_lt {x : Int32} {off : Int} {tgt : Nat} (d : decode (mC M) pc = .ok (.ifCond .lt off, 3)) (ht : (pc : Int) + off = (tgt : Int)) (kt : x < 0 → J X M tgt ls st h k n Q) (kf : ¬ x < 0 → J X M (pc + 3) ls st h k n Q) : J X M pc ls (vI x :: st) h k n Q := by
  intro p e R s m args below meth c ψ0 h0 F ψ H locs cells slots la hR hE hL hs hl hz hc hn
  exact lv_if_lt F.1 F.2.1 d ht (fun hq => (kt hq) p e R s m args below meth c ψ0 h0 F ψ H locs cells slots la hR hE hL (fun v hv => hs v (List.mem_cons_of_mem _ hv)) hl hz hc hn) (fun hq => (kf hq) p e R s m args below meth c ψ0 h0 F ψ H locs cells slots la hR hE hL (fun v hv => hs v (List.mem_cons_of_mem _ hv)) hl hz hc hn)
theorem J_ic_lt {x y : Int32} {off : Int} {tgt : Nat} (d : decode (mC M) pc = .ok (.if_icmp .lt off, 3)) (ht : (pc : Int) + off = (tgt : Int)) (kt : x < y → J X M tgt ls st h k n Q) (kf : ¬ x < y → J X M (pc + 3) ls st h k n Q) : J X M pc ls (vI y :: vI x :: st) h k n Q := by
  intro p e R s m args below meth c ψ0 h0 F ψ H locs cells slots la hR hE hL hs hl hz hc hn
  exact lv_icmp_lt F.1 F.2.1 d ht (fun hq => (kt hq) p e R s m args below meth c ψ0 h0 F ψ H locs cells slots la hR hE hL (fun v hv => hs v (List.mem_cons_of_mem _ (List.mem_cons_of_mem _ hv))) hl hz hc hn) (fun hq => (kf hq) p e R s m args below meth c ψ0 h0 F ψ H locs cells slots la hR hE hL (fun v hv => hs v (List.mem_cons_of_mem _ (List.mem_cons_of_mem _ hv))) hl hz hc hn)
theorem J_if_ge {x : Int32} {off : Int} {tgt : Nat} (d : decode (mC M) pc = .ok (.ifCond .ge off, 3)) (ht : (pc : Int) + off = (tgt : Int)) (kt : 0 ≤ x → J X M tgt ls st h k n Q) (kf : ¬ 0 ≤ x → J X M (pc + 3) ls st h k n Q) : J X M pc ls (vI x :: st) h k n Q := by
  intro p e R s m args below meth c ψ0 h0 F ψ H locs cells slots la hR hE hL hs hl hz hc hn
  exact lv_if_ge F.1 F.2.1 d ht (fun hq => (kt hq) p e R s m args below meth c ψ0 h0 F ψ H locs cells slots la hR hE hL (fun v hv => hs v (List.mem_cons_of_mem _ hv)) hl hz hc hn) (fun hq => (kf hq) p e R s m args below meth c ψ0 h0 F ψ H locs cells slots la hR hE hL (fun v hv => hs v (List.mem_cons_of_mem _ hv)) hl hz hc hn)
theorem J_ic_ge {x y : Int32} {off : Int} {tgt : Nat} (d : decode (mC M) pc = .ok (.if_icmp .ge off, 3)) (ht : (pc : Int) + off = (tgt : Int)) (kt : y ≤ x → J X M tgt ls st h k n Q) (kf : ¬ y ≤ x → J X M (pc + 3) ls st h k n Q) : J X M pc ls (vI y :: vI x :: st) h k n Q := by
  intro p e R s m args below meth c ψ0 h0 F ψ H locs cells slots la hR hE hL hs hl hz hc hn
  exact lv_icmp_ge F.1 F.2.1 d ht (fun hq => (kt hq) p e R s m args below meth c ψ0 h0 F ψ H locs cells slots la hR hE hL (fun v hv => hs v (List.mem_cons_of_mem _ (List.mem_cons_of_mem _ hv))) hl hz hc hn) (fun hq => (kf hq) p e R s m args below meth c ψ0 h0 F ψ H locs cells slots la hR hE hL (fun v hv => hs v (List.mem_cons_of_mem _ (List.mem_cons_of_mem _ hv))) hl hz hc hn)
theorem J_if_gt {x : Int32} {off : Int} {tgt : Nat} (d : decode (mC M) pc = .ok (.ifCond .gt off, 3)) (ht : (pc : Int) + off = (tgt : Int)) (kt : 0 < x → J X M tgt ls st h k n Q) (kf : ¬ 0 < x → J X M (pc + 3) ls st h k n Q) : J X M pc ls (vI x :: st) h k n Q := by
  intro p e R s m args below meth c ψ0 h0 F ψ H locs cells slots la hR hE hL hs hl hz hc hn
  exact lv_if_gt F.1 F.2.1 d ht (fun hq => (kt hq) p e R s m args below meth c ψ0 h0 F ψ H locs cells slots la hR hE hL (fun v hv => hs v (List.mem_cons_of_mem _ hv)) hl hz hc hn) (fun hq => (kf hq) p e R s m args below meth c ψ0 h0 F ψ H locs cells slots la hR hE hL (fun v hv => hs v (List.mem_cons_of_mem _ hv)) hl hz hc hn)
theorem J_ic_gt {x y : Int32} {off : Int} {tgt : Nat} (d : decode (mC M) pc = .ok (.if_icmp .gt off, 3)) (ht : (pc : Int) + off = (tgt : Int)) (kt : y < x → J X M tgt ls st h k n Q) (kf : ¬ y < x → J X M (pc + 3) ls st h k n Q) : J X M pc ls (vI y :: vI x :: st) h k n Q := by
  intro p e R s m args below meth c ψ0 h0 F ψ H locs cells slots la hR hE hL hs hl hz hc hn
  exact lv_icmp_gt F.1 F.2.1 d ht (fun hq => (kt hq) p e R s m args below meth c ψ0 h0 F ψ H locs cells slots la hR hE hL (fun v hv => hs v (List.mem_cons_of_mem _ (List.mem_cons_of_mem _ hv))) hl hz hc hn) (fun hq => (kf hq) p e R s m args below meth c ψ0 h0 F ψ H locs cells slots la hR hE hL (fun v hv => hs v (List.mem_cons_of_mem _ (List.mem_cons_of_mem _ hv))) hl hz hc hn)
theorem J_if_le {x : Int32} {off : Int} {tgt : Nat} (d : decode (mC M) pc = .ok (.ifCond .le off, 3)) (ht : (pc : Int) + off = (tgt : Int)) (kt : x ≤ 0 → J X M tgt ls st h k n Q) (kf : ¬ x ≤ 0 → J X M (pc + 3) ls st h k n Q) : J X M pc ls (vI x :: st) h k n Q := by
  intro p e R s m args below meth c ψ0 h0 F ψ H locs cells slots la hR hE hL hs hl hz hc hn
  exact lv_if_le F.1 F.2.1 d ht (fun hq => (kt hq) p e R s m args below meth c ψ0 h0 F ψ H locs cells slots la hR hE hL (fun v hv => hs v (List.mem_cons_of_mem _ hv)) hl hz hc hn) (fun hq => (kf hq) p e R s m args below meth c ψ0 h0 F ψ H locs cells slots la hR hE hL (fun v hv => hs v (List.mem_cons_of_mem _ hv)) hl hz hc hn)
theorem J_ic_le {x y : Int32} {off : Int} {tgt : Nat} (d : decode (mC M) pc = .ok (.if_icmp .le off, 3)) (ht : (pc : Int) + off = (tgt : Int)) (kt : x ≤ y → J X M tgt ls st h k n Q) (kf : ¬ x ≤ y → J X M (pc + 3) ls st h k n Q) : J X M pc ls (vI y :: vI x :: st) h k n Q := by
  intro p e R s m args below meth c ψ0 h0 F ψ H locs cells slots la hR hE hL hs hl hz hc hn
  exact lv_icmp_le F.1 F.2.1 d ht (fun hq => (kt hq) p e R s m args below meth c ψ0 h0 F ψ H locs cells slots la hR hE hL (fun v hv => hs v (List.mem_cons_of_mem _ (List.mem_cons_of_mem _ hv))) hl hz hc hn) (fun hq => (kf hq) p e R s m args below meth c ψ0 h0 F ψ H locs cells slots la hR hE hL (fun v hv => hs v (List.mem_cons_of_mem _ (List.mem_cons_of_mem _ hv))) hl hz hc hn)
theorem J_ifnull {r : Option Tg} {off : Int} {tgt : Nat} (d : decode (mC M) pc = .ok (.ifnull off, 3)) (ht : (pc : Int) + off = (tgt : Int)) (kt : r = none → J X M tgt ls st h k n Q) (kf : ∀ t, r = some t → J X M (pc + 3) ls st h k n Q) : J X M pc ls (vR r :: st) h k n Q := by
  intro p e R s m args below meth c ψ0 h0 F ψ H locs cells slots la hR hE hL hs hl hz hc hn
  cases r with
  | none => exact lv_ifnullN F.1 F.2.1 d ht ((kt rfl) p e R s m args below meth c ψ0 h0 F ψ H locs cells slots la hR hE hL (fun v hv => hs v (List.mem_cons_of_mem _ hv)) hl hz hc hn)
  | some t => exact lv_ifnull F.1 F.2.1 d ((kf t rfl) p e R s m args below meth c ψ0 h0 F ψ H locs cells slots la hR hE hL (fun v hv => hs v (List.mem_cons_of_mem _ hv)) hl hz hc hn)
theorem J_ifnonnull {r : Option Tg} {off : Int} {tgt : Nat} (d : decode (mC M) pc = .ok (.ifnonnull off, 3)) (ht : (pc : Int) + off = (tgt : Int)) (kt : ∀ t, r = some t → J X M tgt ls st h k n Q) (kf : r = none → J X M (pc + 3) ls st h k n Q) : J X M pc ls (vR r :: st) h k n Q := by
  intro p e R s m args below meth c ψ0 h0 F ψ H locs cells slots la hR hE hL hs hl hz hc hn
  cases r with
  | none => exact lv_ifnonnullN F.1 F.2.1 d ((kf rfl) p e R s m args below meth c ψ0 h0 F ψ H locs cells slots la hR hE hL (fun v hv => hs v (List.mem_cons_of_mem _ hv)) hl hz hc hn)
  | some t => exact lv_ifnonnull F.1 F.2.1 d ht ((kt t rfl) p e R s m args below meth c ψ0 h0 F ψ H locs cells slots la hR hE hL (fun v hv => hs v (List.mem_cons_of_mem _ hv)) hl hz hc hn)
theorem phR_inj {X : GX} {ψ : Tg → Nat} {h : LH} {H : Heap} (hR : HR X ψ h H) {r r' : Option Tg} (h1 : Lv h (vR r)) (h2 : Lv h (vR r')) : r.map ψ = r'.map ψ ↔ r = r' := by
  cases r <;> cases r' <;> simp
  exact ⟨fun e => hR.2.1 _ _ h1 h2 e, fun e => by rw [e]⟩
theorem J_acne {r r' : Option Tg} {off : Int} {tgt : Nat} (d : decode (mC M) pc = .ok (.if_acmp .ne off, 3)) (ht : (pc : Int) + off = (tgt : Int)) (kt : ¬ r = r' → J X M tgt ls st h k n Q) (kf : r = r' → J X M (pc + 3) ls st h k n Q) : J X M pc ls (vR r' :: vR r :: st) h k n Q := by
  intro p e R s m args below meth c ψ0 h0 F ψ H locs cells slots la hR hE hL hs hl hz hc hn
  have hi := phR_inj hR (hs _ (List.mem_cons_of_mem _ List.mem_cons_self)) (hs _ List.mem_cons_self)
  exact lv_acmp_ne F.1 F.2.1 d ht (fun hq => (kt (fun e => hq (hi.mpr e))) p e R s m args below meth c ψ0 h0 F ψ H locs cells slots la hR hE hL (fun v hv => hs v (List.mem_cons_of_mem _ (List.mem_cons_of_mem _ hv))) hl hz hc hn) (fun hq => (kf (hi.mp hq)) p e R s m args below meth c ψ0 h0 F ψ H locs cells slots la hR hE hL (fun v hv => hs v (List.mem_cons_of_mem _ (List.mem_cons_of_mem _ hv))) hl hz hc hn)
theorem J_swOut {dflt lo hi : Int} {offs : Array Int} {len : Nat} {x : Int32} {tgt : Nat} (d : decode (mC M) pc = .ok (.tableswitch dflt lo hi offs, len)) (hx : x.toInt < lo ∨ hi < x.toInt) (ht : (pc : Int) + dflt = (tgt : Int)) (kk : J X M tgt ls st h k n Q) : J X M pc ls (vI x :: st) h k n Q := by
  intro p e R s m args below meth c ψ0 h0 F ψ H locs cells slots la hR hE hL hs hl hz hc hn
  exact lv_tableOut F.1 F.2.1 d hx ht (kk p e R s m args below meth c ψ0 h0 F ψ H locs cells slots la hR hE hL (fun v hv => hs v (List.mem_cons_of_mem _ hv)) hl hz hc hn)
theorem J_swIn {dflt lo hi : Int} {offs : Array Int} {len : Nat} {x : Int32} {off : Int} {tgt : Nat} (d : decode (mC M) pc = .ok (.tableswitch dflt lo hi offs, len)) (h1 : ¬ x.toInt < lo) (h2 : ¬ hi < x.toInt) (ho : offs[(x.toInt - lo).toNat]? = some off) (ht : (pc : Int) + off = (tgt : Int)) (kk : J X M tgt ls st h k n Q) : J X M pc ls (vI x :: st) h k n Q := by
  intro p e R s m args below meth c ψ0 h0 F ψ H locs cells slots la hR hE hL hs hl hz hc hn
  exact lv_tableIn F.1 F.2.1 d h1 h2 ho ht (kk p e R s m args below meth c ψ0 h0 F ψ H locs cells slots la hR hE hL (fun v hv => hs v (List.mem_cons_of_mem _ hv)) hl hz hc hn)
end JR
end
section
/-! RULES OF J THAT READ OR WRITE THE HEAP -/
theorem Lt_up {h : LH} {t u : Tg} {c : LC} (hu : Lt h u) : Lt (hup h t c) u := by
  rcases hu with hu | hu
  · by_cases e : u = t
    · subst e; exact Or.inl (by rw [hup_s]; exact fun q => nomatch q)
    · exact Or.inl (by rw [hup_n e]; exact hu)
  · exact Or.inr hu
theorem Lv_mono {h h' : LH} (hm : ∀ t, Lt h t → Lt h' t) {v : LV} (hv : Lv h v) : Lv h' v := by
  match v, hv with
  | .inl _, _ => trivial
  | .inr (.inl _), _ => trivial
  | .inr (.inr none), _ => trivial
  | .inr (.inr (some t)), hv => exact hm t hv
theorem Lc_mono {h h' : LH} (hm : ∀ t, Lt h t → Lt h' t) {c : LC} (hc : Lc h c) : Lc h' c := by
  match c, hc with
  | .inl o, hc => exact fun v hv => Lv_mono hm (hc v hv)
  | .inr (_, _, .inr (.inr f)), hc => exact fun j t hj => hm t (hc j t hj)
  | .inr (_, _, .inl _), _ => trivial
  | .inr (_, _, .inr (.inl _)), _ => trivial
theorem conc_ext {tc : Nat → ClassId} {ψ ψ' : Tg → Nat} {h h' : LH} (a : ext ψ ψ' h h') {c : LC} (hc : Lc h c) : conc tc ψ' c = conc tc ψ c := by
  match c, hc with
  | .inl o, hc => show Sum.inr (o.1, o.2.map (ph ψ')) = Sum.inr (o.1, o.2.map (ph ψ)); rw [ext_map a hc]
  | .inr (k, n, .inl f), _ => rfl
  | .inr (k, n, .inr (.inl f)), _ => rfl
  | .inr (k, n, .inr (.inr f)), hc =>
    show Sum.inl (tc k, n, Sum.inr (Sum.inr (Sum.inr (Sum.inr (fun j => (f j).map ψ'))))) = Sum.inl (tc k, n, Sum.inr (Sum.inr (Sum.inr (Sum.inr (fun j => (f j).map ψ)))))
    have e : (fun j => (f j).map ψ') = (fun j => (f j).map ψ) := by
      funext j
      cases hj : f j with
      | none => rfl
      | some t => show some (ψ' t) = some (ψ t); rw [(a t (hc j t hj)).1]
    rw [e]
theorem HR_at {X : GX} {ψ : Tg → Nat} {h : LH} {H : Heap} (hR : HR X ψ h H) {t : Tg} {c : LC} (hh : h t = some c) : va_at (xD X) vwCl (ψ t, conc (xtc X) ψ c) H := (hR.1 t c hh).1
theorem HR_lt {X : GX} {ψ : Tg → Nat} {h : LH} {H : Heap} (hR : HR X ψ h H) {t : Tg} {c : LC} (hh : h t = some c) : ψ t < H.size := (HR_at hR hh).lt
theorem HR_up {X : GX} {ψ : Tg → Nat} {h : LH} {H H1 : Heap} (hR : HR X ψ h H) {t : Tg} {c c0 : LC} (hh : h t = some c0) (hz : H1.size = H.size) (ho : ∀ q, q ≠ ψ t → H1[q]? = H[q]?)
    (ha : va_at (xD X) vwCl (ψ t, conc (xtc X) ψ c) H1) (hc : Lc h c) : HR X ψ (hup h t c) H1 := by
  obtain ⟨g1, g2, g3, g4, g5, g6, g7⟩ := id hR
  have hm : ∀ u, Lt h u → Lt (hup h t c) u := fun u => Lt_up
  have hb : ∀ u, Lt (hup h t c) u → Lt h u := by
    intro u hu
    rcases hu with hu | hu
    · by_cases e : u = t
      · subst e; exact Or.inl (by rw [hh]; exact fun q => nomatch q)
      · rw [hup_n e] at hu; exact Or.inl hu
    · exact Or.inr hu
  have hts : t ≠ tScr := fun e => by rw [e, g4] at hh; cases hh
  refine ⟨fun u cu hu => ?_, fun u u' hu hu' e => g2 u u' (hb u hu) (hb u' hu') e, g3, by rw [hup_n (Ne.symm hts)]; exact g4, g5, by rw [hz]; exact g6, fun q hq => ?_⟩
  · by_cases e : u = t
    · subst e
      rw [hup_s] at hu
      cases hu
      exact ⟨ha, (g1 u c0 hh).2.1, Lc_mono hm hc⟩
    · rw [hup_n e] at hu
      obtain ⟨a1, a2, a3⟩ := g1 u cu hu
      refine ⟨a1.kept (ho _ (fun z => e (g2 u t (Or.inl (by rw [hu]; exact fun q => nomatch q)) (Or.inl (by rw [hh]; exact fun q => nomatch q)) z))), a2, Lc_mono hm a3⟩
  · rw [ho q (fun z => by have := (g1 t c0 hh).2.1; omega)]
    exact g7 q hq
/-- the tag of a new cell -/
def upT (ψ : Tg → Nat) (t : Tg) (a : Nat) : Tg → Nat := fun u => if u = t then a else ψ u
theorem HR_new {X : GX} {ψ : Tg → Nat} {h : LH} {H H1 : Heap} (hR : HR X ψ h H) {t : Tg} {c : LC} (hh : h t = none) (hts : t ≠ tScr) (hz : H1.size = H.size + 1) (ho : ∀ q, q < H.size → H1[q]? = H[q]?)
    (ha : va_at (xD X) vwCl (H.size, conc (xtc X) (upT ψ t H.size) c) H1) (hc : ∀ g, Lc g c) : HR X (upT ψ t H.size) (hup h t c) H1 ∧ ext ψ (upT ψ t H.size) h (hup h t c) := by
  obtain ⟨g1, g2, g3, g4, g5, g6, g7⟩ := id hR
  have hn : ¬ Lt h t := fun e => e.elim (fun e => e hh) hts
  have hx : ext ψ (upT ψ t H.size) h (hup h t c) := fun u hu => ⟨if_neg (fun (e : u = t) => hn (e ▸ hu)), Lt_up hu⟩
  have hm : ∀ u, Lt h u → Lt (hup h t c) u := fun u => Lt_up
  have hb : ∀ u, Lt (hup h t c) u → u = t ∨ Lt h u := by
    intro u hu
    by_cases e : u = t
    · exact Or.inl e
    · refine Or.inr (hu.elim (fun hu => Or.inl ?_) Or.inr)
      rw [hup_n e] at hu; exact hu
  have hl : ∀ u, Lt h u → ψ u < H.size := by
    intro u hu
    rcases hu with hu | hu
    · cases hc : h u with
      | none => exact absurd hc hu
      | some cu => exact HR_lt hR hc
    · subst hu; rw [g3]; omega
  refine ⟨⟨fun u cu hu => ?_, fun u u' hu hu' e => ?_, by rw [(hx tScr (Or.inr rfl)).1]; exact g3, by rw [hup_n (Ne.symm hts)]; exact g4, g5, by omega, fun q hq => ?_⟩, hx⟩
  · by_cases e : u = t
    · subst e
      rw [hup_s] at hu
      cases hu
      refine ⟨by rw [show upT ψ u H.size u = H.size from if_pos rfl]; exact ha, by rw [show upT ψ u H.size u = H.size from if_pos rfl]; exact g6, hc _⟩
    · rw [hup_n e] at hu
      obtain ⟨a1, a2, a3⟩ := g1 u cu hu
      have hul : Lt h u := Or.inl (by rw [hu]; exact fun q => nomatch q)
      rw [conc_ext hx a3, (hx u hul).1]
      exact ⟨a1.kept (ho _ (hl u hul)), a2, Lc_mono hm a3⟩
  · have hit : upT ψ t H.size t = H.size := if_pos rfl
    rcases hb u hu with e1 | hu1 <;> rcases hb u' hu' with e2 | hu2
    · rw [e1, e2]
    · rw [(hx u' hu2).1, e1, hit] at e
      have := hl u' hu2; omega
    · rw [(hx u hu1).1, e2, hit] at e
      have := hl u hu1; omega
    · rw [(hx u hu1).1, (hx u' hu2).1] at e
      exact g2 u u' hu1 hu2 e
  · rw [ho q (by omega)]; exact g7 q hq
/-- a class of objects, by the tables -/
def ClsOK (ci : Nat) (C : String) (T : u_T) (N : Nat) (ty : Nat → FieldType) : Prop :=
  vwCl[ci]? = some (C, T, N) ∧ (∀ w ∈ u_ws C T N, w ∈ GW) ∧ (∀ k, k < N → parseFieldDescriptor (T k).2.2.1 = some (ty k)) ∧ (∀ a, a < N → ∀ b, b < N → a ≠ b → (T a).2.1 ≠ (T b).2.1)
/-- a field of it, linked at an entry of the pool of 'own' -/
def FI (own : String) (idx ci kf : Nat) (ft : FieldType) (fin : Bool) : Prop := ∃ (C : String) (T : u_T) (N : Nat) (ty : Nat → FieldType),
  ClsOK ci C T N ty ∧ Cond.fieldLink own idx C (T kf).2.1 (T kf).2.2.1 ∈ GW ∧ kf < N ∧ (T kf).1 = C ∧ parseFieldDescriptor (T kf).2.2.1 = some ft ∧ (T kf).2.2.2 = fin
section JH
variable {X : GX} {M : MI} {pc : Nat} {ls : List (Option LV)} {st : List LV} {h : LH} {k n : Nat} {Q : LO → LH → Prop}
theorem J_getf {t : Tg} {ci kf idx : Nat} {fs : List LV} {ft : FieldType} {fin : Bool} {v : LV} (d : decode (mC M) pc = .ok (.getfield idx, 3)) (f : FI (mN M).cls idx ci kf ft fin) (hh : h t = some (cO ci fs)) (hv : fs[kf]? = some v)
    (kk : J X M (pc + 3) ls (v :: st) h k n Q) : J X M pc ls (vR (some t) :: st) h k n Q := by
  intro p e R s m args below meth c ψ0 h0 F ψ H locs cells slots la hR hE hL hs hl hz hc hn
  obtain ⟨C, T, N, ty, hC, hw, hk, ho, -, -⟩ := f
  have hat := HR_at hR hh
  have hP : va_P (xD X) vwCl [(ψ t, conc (xtc X) ψ (cO ci fs))] H := fun q x hx => by
    cases q with
    | zero => cases hx; exact hat
    | succ q => cases hx
  have hlv : Lv h v := (hR.1 t _ hh).2.2 v (List.mem_of_getElem? hv)
  exact va_get (cl := vwCl) F.1 F.2.1 F.2.2.2.2.2.2.1 hC.2.1 F.2.2.2.2.2.1 F.2.2.2.2.2.2.2.1.1 hP 0 (fs := fs.map (ph ψ)) rfl hC.1 kf hk (F.2.2.2.2.2.2.1 _ hw) (fun x hx => by rw [ho] at hx; exact hx) (v := ph ψ v) (by rw [List.getElem?_map, hv]; rfl) d
    (kk p e R s m args below meth c ψ0 h0 F ψ H locs cells slots la hR hE hL (lv_cons hlv (fun v hv => hs v (List.mem_cons_of_mem _ hv))) hl hz hc hn)
theorem xA_loc {locs : List Loc} {a i : Nat} (ha : xA X a) (hz : ∀ z ∈ locs, xA X z.base) : ∀ z ∈ locs ++ [⟨a, i⟩], xA X z.base := by
  intro z hq
  rcases List.mem_append.mp hq with q | q
  · exact hz z q
  · rcases List.mem_cons.mp q with rfl | q
    · exact ha
    · cases q
theorem J_put {t : Tg} {ci kf idx : Nat} {fs : List LV} {ft : FieldType} {v : LV} (d : decode (mC M) pc = .ok (.putfield idx, 3)) (f : FI (mN M).cls idx ci kf ft false) (hh : h t = some (cO ci fs)) (hlen : kf < fs.length)
    (hn1 : ∀ ψ, narrow ft (ph ψ v) = ph ψ v) (hf1 : ∀ ψ, fits ft (ph ψ v) = true) (kk : J X M (pc + 3) ls st (hup h t (cO ci (fs.set kf v))) k n Q) : J X M pc ls (v :: vR (some t) :: st) h k n Q := by
  intro p e R s m args below meth c ψ0 h0 F ψ H locs cells slots la hR hE hL hs hl hz hc hn
  obtain ⟨C, T, N, ty, hC, hw, hk, ho, hp, hfin⟩ := f
  have hts := F.2.2.2.2.2.2.1
  have hK := F.2.2.2.2.2.2.2.1.1
  have hap := va_apart (own := C) hts hC.2.1 ty hC.2.2.1 hC.2.2.2 hK hC.1
  obtain ⟨r, h1, cell, q1, q2, q3, q4⟩ := HR_at hR hh
  have hr : r = (C, T, N) := Option.some.inj (h1.symm.trans hC.1)
  subst hr
  obtain ⟨hS, hfc, kC, hkC, hkind⟩ := hK.1 ci _ hC.1
  obtain ⟨cf, kf', fi, fd, hi, hsl⟩ := hS kf hk
  have hlay := hts _ (hC.2.1 _ (u_in_lay hk))
  unfold u_lay at hlay
  rw [if_neg (by rw [hfin]; decide)] at hlay
  have hst := (u_facts hfc hkC (u_lays hts hC.2.1 hk) hi).1
  have h6 := u_store hfc hkC hkind hlay hi hp (hn1 ψ) (hf1 ψ)
  have hlv : Lv h v := hs v List.mem_cons_self
  refine W.putK F.1 F.2.1 (f := fd) ⟨F.2.2.2.2.2.1, hts _ hw, ⟨_, _, _, by rw [ho] at hi; exact hi⟩, hst⟩ (by rw [q2]; exact h6) q1 q3 (by rw [hsl]; exact k2_hasslot (q4 kf hk)) rfl rfl d fun H' e1 e2 e3 => ?_
  rw [hsl] at e1 ⊢
  have hnew : va_at (xD X) vwCl (ψ t, conc (xtc X) ψ (cO ci (fs.set kf v))) H' := by
    refine ⟨_, hC.1, ?_⟩
    show t_OB _ _ _ _ _ (vp_V ((fs.set kf v).map (ph ψ)))
    rw [List.map_set]
    exact t_OB.to (V := updV (vp_V (fs.map (ph ψ))) kf (ph ψ v)) ⟨_, e1, q2, q3, t_set q4 hap hk (ph ψ v)⟩ (fun j _ => vp_updV_set (by rw [List.length_map]; exact hlen) (ph ψ v) j)
  have hlc : Lc h (cO ci (fs.set kf v)) := by
    intro w hw
    rcases List.mem_or_eq_of_mem_set hw with hw | rfl
    · exact (hR.1 t _ hh).2.2 w hw
    · exact hlv
  have hR' := HR_up hR hh e2 e3 hnew hlc
  have hm : ∀ u, Lt h u → Lt (hup h t (cO ci (fs.set kf v))) u := fun u => Lt_up
  exact kk p e R s m args below meth c ψ0 h0 F ψ H' _ cells slots la hR' (fun u hu => ⟨(hE u hu).1, hm u (hE u hu).2⟩) hL (fun w hw => Lv_mono hm (hs w (List.mem_cons_of_mem _ (List.mem_cons_of_mem _ hw)))) (fun w hw => Lv_mono hm (hl w hw)) (xA_loc (hR.1 t _ hh).2.1 hz) hc hn
theorem J_putF {t : Tg} {ci kf idx : Nat} {fs : List LV} {ft : FieldType} {v : LV} (d : decode (mC M) pc = .ok (.putfield idx, 3)) (f : FI (mN M).cls idx ci kf ft true) (hcl : vwCl[ci]?.map (fun r => r.1) = some (mN M).cls) (hini : (mN M).name = "<init>") (hh : h t = some (cO ci fs)) (hlen : kf < fs.length)
    (hn1 : ∀ ψ, narrow ft (ph ψ v) = ph ψ v) (hf1 : ∀ ψ, fits ft (ph ψ v) = true) (kk : J X M (pc + 3) ls st (hup h t (cO ci (fs.set kf v))) k n Q) : J X M pc ls (v :: vR (some t) :: st) h k n Q := by
  intro p e R s m args below meth c ψ0 h0 F ψ H locs cells slots la hR hE hL hs hl hz hc hn
  obtain ⟨C, T, N, ty, hC, hw, hk, ho, hp, hfin⟩ := f
  have hdc : C = (mN M).cls := by rw [hC.1] at hcl; exact Option.some.inj hcl
  have hts := F.2.2.2.2.2.2.1
  have hK := F.2.2.2.2.2.2.2.1.1
  have hap := va_apart (own := C) hts hC.2.1 ty hC.2.2.1 hC.2.2.2 hK hC.1
  obtain ⟨r, h1, cell, q1, q2, q3, q4⟩ := HR_at hR hh
  have hr : r = (C, T, N) := Option.some.inj (h1.symm.trans hC.1)
  subst hr
  obtain ⟨hS, hfc, kC, hkC, hkind⟩ := hK.1 ci _ hC.1
  obtain ⟨cf, kf', fi, fd, hi, hsl⟩ := hS kf hk
  have hlay := hts _ (hC.2.1 _ (u_in_lay hk))
  unfold u_lay at hlay
  rw [if_pos hfin] at hlay
  have hst := (u_facts hfc hkC (u_lays hts hC.2.1 hk) hi).1
  have hcf : m.cls = cf := by
    obtain ⟨_, _, c', _, _, _, -, -, hf', -, -, -, hown2, -⟩ := Cond.laysFinal_spec hlay
    have e1 : c' = cf := by have := hi.symm.trans hf'; simp at this; exact this.1.symm
    rw [ho, hdc] at hown2
    rw [← e1]; exact Option.some.inj (F.2.2.2.2.2.1.symm.trans hown2)
  have h6 := u_fits hfc hkC hkind (Or.inr hlay) hi hp (hn1 ψ) (hf1 ψ)
  have hlv : Lv h v := hs v List.mem_cons_self
  refine W.putFinK F.1 F.2.1 F.2.2.2.2.2.1 (hts _ hw) (by rw [ho] at hi; exact hi) hst hcf (F.2.2.2.2.2.2.2.2.2.2.1.trans hini) (by rw [q2]; exact h6) q1 q3 (by rw [hsl]; exact k2_hasslot (q4 kf hk)) rfl rfl d fun H' e1 e2 e3 => ?_
  rw [hsl] at e1 ⊢
  have hnew : va_at (xD X) vwCl (ψ t, conc (xtc X) ψ (cO ci (fs.set kf v))) H' := by
    refine ⟨_, hC.1, ?_⟩
    show t_OB _ _ _ _ _ (vp_V ((fs.set kf v).map (ph ψ)))
    rw [List.map_set]
    exact t_OB.to (V := updV (vp_V (fs.map (ph ψ))) kf (ph ψ v)) ⟨_, e1, q2, q3, t_set q4 hap hk (ph ψ v)⟩ (fun j _ => vp_updV_set (by rw [List.length_map]; exact hlen) (ph ψ v) j)
  have hlc : Lc h (cO ci (fs.set kf v)) := by
    intro w hw
    rcases List.mem_or_eq_of_mem_set hw with hw | rfl
    · exact (hR.1 t _ hh).2.2 w hw
    · exact hlv
  have hR' := HR_up hR hh e2 e3 hnew hlc
  have hm : ∀ u, Lt h u → Lt (hup h t (cO ci (fs.set kf v))) u := fun u => Lt_up
  exact kk p e R s m args below meth c ψ0 h0 F ψ H' _ cells slots la hR' (fun u hu => ⟨(hE u hu).1, hm u (hE u hu).2⟩) hL (fun w hw => Lv_mono hm (hs w (List.mem_cons_of_mem _ (List.mem_cons_of_mem _ hw)))) (fun w hw => Lv_mono hm (hl w hw)) (xA_loc (hR.1 t _ hh).2.1 hz) hc hn
end JH
end
section
/-! ROWS OF NUMBERS AND REFERENCES, NEW CELLS, THE SCRIPT, THE METHOD'S END -/
def ix (i : Int32) (n j : Nat) : Prop := vp_in i n ∧ i.toNatClampNeg = j
theorem ix_nI {j n : Nat} (h : j < n) (hn : n < 2 ^ 31) : ix (nI j) n j := ⟨vp_in_nI h hn, nI_clamp (by omega)⟩
theorem ix_lt {i : Int32} {n j : Nat} (h : ix i n j) : j < n := by
  have := h.1
  unfold vp_in at this
  rw [← h.2]; omega
def xzb (x : Int32) : Prop := x = 0 ∨ x = 1
theorem xzb_nar {x : Int32} (h : xzb x) : narrow .boolean (.int x) = .int x := by rcases h with rfl | rfl <;> rfl
theorem xzb_fit {x : Int32} (h : xzb x) : fits .boolean (.int x) = true := by rcases h with rfl | rfl <;> rfl
def freshL (fs : List LV) : Bool := fs.all (fun v => match v with
  | .inr (.inr (some _)) => false
  | _ => true)
theorem freshL_lv {fs : List LV} (hf : freshL fs = true) (g : LH) : ∀ v ∈ fs, Lv g v := by
  intro v hv
  have h1 := List.all_eq_true.mp hf v hv
  match v, h1 with
  | .inl _, _ => trivial
  | .inr (.inl _), _ => trivial
  | .inr (.inr none), _ => trivial
def NI (own : String) (idx ci : Nat) (fs : List LV) (N : Nat) : Prop := ∃ (C : String) (T : u_T) (ty : Nat → FieldType),
  ClsOK ci C T N ty ∧ Cond.classLink own idx C ∈ GW ∧ Cond.instantiable C N ∈ GW ∧ Cond.initialized C ∈ GW ∧ (∀ ψ j, j < N → defaultValue (ty j) = vp_V (fs.map (ph ψ)) j) ∧ freshL fs = true
section JA
variable {X : GX} {M : MI} {pc : Nat} {ls : List (Option LV)} {st : List LV} {h : LH} {k n : Nat} {Q : LO → LH → Prop}
theorem J_putI {t : Tg} {ci kf idx : Nat} {fs : List LV} {x : Int32} (d : decode (mC M) pc = .ok (.putfield idx, 3)) (f : FI (mN M).cls idx ci kf .int false) (hh : h t = some (cO ci fs)) (hlen : kf < fs.length)
    (kk : J X M (pc + 3) ls st (hup h t (cO ci (fs.set kf (vI x)))) k n Q) : J X M pc ls (vI x :: vR (some t) :: st) h k n Q := J_put d f hh hlen (fun _ => rfl) (fun _ => rfl) kk
theorem J_putZ {t : Tg} {ci kf idx : Nat} {fs : List LV} {x : Int32} (d : decode (mC M) pc = .ok (.putfield idx, 3)) (f : FI (mN M).cls idx ci kf .boolean false) (hx : xzb x) (hh : h t = some (cO ci fs)) (hlen : kf < fs.length)
    (kk : J X M (pc + 3) ls st (hup h t (cO ci (fs.set kf (vI x)))) k n Q) : J X M pc ls (vI x :: vR (some t) :: st) h k n Q := J_put d f hh hlen (fun _ => xzb_nar hx) (fun _ => xzb_fit hx) kk
def rfT (ty : FieldType) : Bool := match ty with
  | .object _ => true
  | .array _ => true
  | _ => false
theorem rfT_nar {ty : FieldType} (h : rfT ty = true) (r : Option Tg) (ψ : Tg → Nat) : narrow ty (ph ψ (vR r)) = ph ψ (vR r) ∧ fits ty (ph ψ (vR r)) = true := by
  cases ty <;> first
    | (simp [rfT] at h; done)
    | (cases r <;> exact ⟨rfl, rfl⟩)
theorem J_putR {t : Tg} {ci kf idx : Nat} {fs : List LV} {ty : FieldType} {r : Option Tg} (d : decode (mC M) pc = .ok (.putfield idx, 3)) (f : FI (mN M).cls idx ci kf ty false) (hty : rfT ty = true) (hh : h t = some (cO ci fs)) (hlen : kf < fs.length)
    (kk : J X M (pc + 3) ls st (hup h t (cO ci (fs.set kf (vR r)))) k n Q) : J X M pc ls (vR r :: vR (some t) :: st) h k n Q := J_put d f hh hlen (fun ψ => (rfT_nar hty r ψ).1) (fun ψ => (rfT_nar hty r ψ).2) kk
theorem J_putFI {t : Tg} {ci kf idx : Nat} {fs : List LV} {x : Int32} (d : decode (mC M) pc = .ok (.putfield idx, 3)) (f : FI (mN M).cls idx ci kf .int true) (hcl : vwCl[ci]?.map (fun r => r.1) = some (mN M).cls) (hini : (mN M).name = "<init>") (hh : h t = some (cO ci fs)) (hlen : kf < fs.length)
    (kk : J X M (pc + 3) ls st (hup h t (cO ci (fs.set kf (vI x)))) k n Q) : J X M pc ls (vI x :: vR (some t) :: st) h k n Q := J_putF d f hcl hini hh hlen (fun _ => rfl) (fun _ => rfl) kk
theorem J_putFZ {t : Tg} {ci kf idx : Nat} {fs : List LV} {x : Int32} (d : decode (mC M) pc = .ok (.putfield idx, 3)) (f : FI (mN M).cls idx ci kf .boolean true) (hcl : vwCl[ci]?.map (fun r => r.1) = some (mN M).cls) (hini : (mN M).name = "<init>") (hx : xzb x) (hh : h t = some (cO ci fs)) (hlen : kf < fs.length)
    (kk : J X M (pc + 3) ls st (hup h t (cO ci (fs.set kf (vI x)))) k n Q) : J X M pc ls (vI x :: vR (some t) :: st) h k n Q := J_putF d f hcl hini hh hlen (fun _ => xzb_nar hx) (fun _ => xzb_fit hx) kk
theorem J_putFR {t : Tg} {ci kf idx : Nat} {fs : List LV} {ty : FieldType} {r : Option Tg} (d : decode (mC M) pc = .ok (.putfield idx, 3)) (f : FI (mN M).cls idx ci kf ty true) (hcl : vwCl[ci]?.map (fun r => r.1) = some (mN M).cls) (hini : (mN M).name = "<init>") (hty : rfT ty = true) (hh : h t = some (cO ci fs)) (hlen : kf < fs.length)
    (kk : J X M (pc + 3) ls st (hup h t (cO ci (fs.set kf (vR r)))) k n Q) : J X M pc ls (vR r :: vR (some t) :: st) h k n Q := J_putF d f hcl hini hh hlen (fun ψ => (rfT_nar hty r ψ).1) (fun ψ => (rfT_nar hty r ψ).2) kk
theorem J_iald {t : Tg} {N j : Nat} {f : Nat → Int32} {i : Int32} (d : decode (mC M) pc = .ok (.iaload, 1)) (hh : h t = some (cI 0 N f)) (hi : ix i N j) (kk : J X M (pc + 1) ls (vI (f j) :: st) h k n Q) : J X M pc ls (vI i :: vR (some t) :: st) h k n Q := by
  intro p e R s m args below meth c ψ0 h0 F ψ H locs cells slots la hR hE hL hs hl hz hc hn
  have hat : H[ψ t]? = some (arrV (xtc X 0) N (fun j => Value.int (f j))) := HR_at hR hh
  have hA := (F.2.2.2.2.2.2.2.1.1.2 0 _ (tysL_at (xtc X) (by decide))).1
  obtain ⟨hin, hj⟩ := hi
  have hlt : i.toNatClampNeg < N := Nat.not_le.mp fun q => hin (Or.inr q)
  refine W.iald (v := .int (f j)) F.1 F.2.1 hat (hA N (fun j => .int (f j))) (fun q => by cases q) (by show ¬ (i < 0 ∨ (arrV _ _ _).slots.size ≤ _); rw [arrV_size]; exact hin) (by show (arrV _ _ _).slots[_]? = _; rw [arrV_read _ _ hlt, hj]) rfl rfl d ?_
  exact kk p e R s m args below meth c ψ0 h0 F ψ H locs cells slots la hR hE hL (lv_cons trivial (fun v hv => hs v (List.mem_cons_of_mem _ (List.mem_cons_of_mem _ hv)))) hl hz hc hn
theorem J_zald {t : Tg} {N j : Nat} {f : Nat → Int32} {i : Int32} (d : decode (mC M) pc = .ok (.baload, 1)) (hh : h t = some (cI 1 N f)) (hi : ix i N j) (kk : J X M (pc + 1) ls (vI (f j) :: st) h k n Q) : J X M pc ls (vI i :: vR (some t) :: st) h k n Q := by
  intro p e R s m args below meth c ψ0 h0 F ψ H locs cells slots la hR hE hL hs hl hz hc hn
  have hat : H[ψ t]? = some (arrV (xtc X 1) N (fun j => Value.int (f j))) := HR_at hR hh
  have hA := (F.2.2.2.2.2.2.2.1.1.2 1 _ (tysL_at (xtc X) (by decide))).1
  obtain ⟨hin, hj⟩ := hi
  have hlt : i.toNatClampNeg < N := Nat.not_le.mp fun q => hin (Or.inr q)
  refine W.zald (v := .int (f j)) F.1 F.2.1 hat (hA N (fun j => .int (f j))) (fun q => by cases q) (by show ¬ (i < 0 ∨ (arrV _ _ _).slots.size ≤ _); rw [arrV_size]; exact hin) (by show (arrV _ _ _).slots[_]? = _; rw [arrV_read _ _ hlt, hj]) rfl rfl d ?_
  exact kk p e R s m args below meth c ψ0 h0 F ψ H locs cells slots la hR hE hL (lv_cons trivial (fun v hv => hs v (List.mem_cons_of_mem _ (List.mem_cons_of_mem _ hv)))) hl hz hc hn
theorem J_lald {t : Tg} {N j : Nat} {f : Nat → Int64} {i : Int32} (d : decode (mC M) pc = .ok (.laload, 1)) (hh : h t = some (cL 2 N f)) (hi : ix i N j) (kk : J X M (pc + 1) ls (vL (f j) :: st) h k n Q) : J X M pc ls (vI i :: vR (some t) :: st) h k n Q := by
  intro p e R s m args below meth c ψ0 h0 F ψ H locs cells slots la hR hE hL hs hl hz hc hn
  have hat : H[ψ t]? = some (arrV (xtc X 2) N (fun j => Value.long (f j))) := HR_at hR hh
  have hA := (F.2.2.2.2.2.2.2.1.1.2 2 _ (tysL_at (xtc X) (by decide))).1
  obtain ⟨hin, hj⟩ := hi
  have hlt : i.toNatClampNeg < N := Nat.not_le.mp fun q => hin (Or.inr q)
  refine W.lald (v := .long (f j)) F.1 F.2.1 hat (hA N (fun j => .long (f j))) (fun q => by cases q) (by show ¬ (i < 0 ∨ (arrV _ _ _).slots.size ≤ _); rw [arrV_size]; exact hin) (by show (arrV _ _ _).slots[_]? = _; rw [arrV_read _ _ hlt, hj]) rfl rfl d ?_
  exact kk p e R s m args below meth c ψ0 h0 F ψ H locs cells slots la hR hE hL (lv_cons trivial (fun v hv => hs v (List.mem_cons_of_mem _ (List.mem_cons_of_mem _ hv)))) hl hz hc hn
theorem J_aald {t : Tg} {K N j : Nat} {f : Nat → Option Tg} {i : Int32} (d : decode (mC M) pc = .ok (.aaload, 1)) (hk : K < 7) (hk3 : (aTy K).isReference = true) (hh : h t = some (cQ K N f)) (hi : ix i N j) (kk : J X M (pc + 1) ls (vR (f j) :: st) h k n Q) : J X M pc ls (vI i :: vR (some t) :: st) h k n Q := by
  intro p e R s m args below meth c ψ0 h0 F ψ H locs cells slots la hR hE hL hs hl hz hc hn
  have hat : H[ψ t]? = some (arrV (xtc X K) N (fun j => phR ψ (f j))) := HR_at hR hh
  have hA := (F.2.2.2.2.2.2.2.1.1.2 K _ (tysL_at (xtc X) hk)).1
  obtain ⟨hin, hj⟩ := hi
  have hlt : i.toNatClampNeg < N := Nat.not_le.mp fun q => hin (Or.inr q)
  have hlv : Lv h (vR (f j)) := by
    cases hf : f j with
    | none => trivial
    | some u => exact (hR.1 t _ hh).2.2 j u hf
  refine W.aald (v := phR ψ (f j)) F.1 F.2.1 hat (hA N (fun j => phR ψ (f j))) hk3 (fun q => by cases q) (by show ¬ (i < 0 ∨ (arrV _ _ _).slots.size ≤ _); rw [arrV_size]; exact hin) (by show (arrV _ _ _).slots[_]? = _; rw [arrV_read _ _ hlt, hj]) rfl rfl d ?_
  exact kk p e R s m args below meth c ψ0 h0 F ψ H locs cells slots la hR hE hL (lv_cons hlv (fun v hv => hs v (List.mem_cons_of_mem _ (List.mem_cons_of_mem _ hv)))) hl hz hc hn
theorem J_iast {t : Tg} {N j : Nat} {f : Nat → Int32} {i : Int32} {x : Int32} (d : decode (mC M) pc = .ok (.iastore, 1)) (hh : h t = some (cI 0 N f)) (hi : ix i N j) (kk : J X M (pc + 1) ls st (hup h t (cI 0 N (upd f j x))) k n Q) : J X M pc ls (vI x :: vI i :: vR (some t) :: st) h k n Q := by
  intro p e R s m args below meth c ψ0 h0 F ψ H locs cells slots la hR hE hL hs hl hz hc hn
  have hat : H[ψ t]? = some (arrV (xtc X 0) N (fun j => Value.int (f j))) := HR_at hR hh
  have hA := (F.2.2.2.2.2.2.2.1.1.2 0 _ (tysL_at (xtc X) (by decide))).1
  obtain ⟨hin, hj⟩ := hi
  refine W.iast F.1 F.2.1 hat (hA N (fun j => .int (f j))) (fun q => by cases q) (by show ¬ (i < 0 ∨ (arrV _ _ _).slots.size ≤ _); rw [arrV_size]; exact hin) rfl rfl d fun H1 e1 e2 e3 => ?_
  have hnew : H1[ψ t]? = some (arrV (xtc X 0) N (fun q => Value.int (upd f j x q))) := by
    rw [e1, arrV_store, hj]
    congr 2
    funext q
    by_cases hq : q = j
    · subst hq; simp [updV, upd]
    · simp [updV, upd, hq]
  have hR2 := HR_up hR hh e2 e3 (c := cI 0 N (upd f j x)) hnew trivial
  exact kk p e R s m args below meth c ψ0 h0 F ψ H1 _ cells slots la hR2 (fun u hu => ⟨(hE u hu).1, Lt_up (hE u hu).2⟩) hL (fun w hw => Lv_mono (fun u => Lt_up) (hs w (List.mem_cons_of_mem _ (List.mem_cons_of_mem _ (List.mem_cons_of_mem _ hw))))) (fun w hw => Lv_mono (fun u => Lt_up) (hl w hw)) (xA_loc (hR.1 t _ hh).2.1 hz) hc hn
theorem J_zast {t : Tg} {N j : Nat} {f : Nat → Int32} {i : Int32} {x : Int32} (d : decode (mC M) pc = .ok (.bastore, 1)) (hx : xzb x) (hh : h t = some (cI 1 N f)) (hi : ix i N j) (kk : J X M (pc + 1) ls st (hup h t (cI 1 N (upd f j x))) k n Q) : J X M pc ls (vI x :: vI i :: vR (some t) :: st) h k n Q := by
  intro p e R s m args below meth c ψ0 h0 F ψ H locs cells slots la hR hE hL hs hl hz hc hn
  have hat : H[ψ t]? = some (arrV (xtc X 1) N (fun j => Value.int (f j))) := HR_at hR hh
  have hA := (F.2.2.2.2.2.2.2.1.1.2 1 _ (tysL_at (xtc X) (by decide))).1
  obtain ⟨hin, hj⟩ := hi
  refine W.zast F.1 F.2.1 hat (hA N (fun j => .int (f j))) (fun q => by cases q) (by show ¬ (i < 0 ∨ (arrV _ _ _).slots.size ≤ _); rw [arrV_size]; exact hin) rfl rfl d fun H1 e1 e2 e3 => ?_
  have hnew : H1[ψ t]? = some (arrV (xtc X 1) N (fun q => Value.int (upd f j x q))) := by
    rw [xzb_nar hx] at e1
    rw [e1, arrV_store, hj]
    congr 2
    funext q
    by_cases hq : q = j
    · subst hq; simp [updV, upd]
    · simp [updV, upd, hq]
  have hR2 := HR_up hR hh e2 e3 (c := cI 1 N (upd f j x)) hnew trivial
  exact kk p e R s m args below meth c ψ0 h0 F ψ H1 _ cells slots la hR2 (fun u hu => ⟨(hE u hu).1, Lt_up (hE u hu).2⟩) hL (fun w hw => Lv_mono (fun u => Lt_up) (hs w (List.mem_cons_of_mem _ (List.mem_cons_of_mem _ (List.mem_cons_of_mem _ hw))))) (fun w hw => Lv_mono (fun u => Lt_up) (hl w hw)) (xA_loc (hR.1 t _ hh).2.1 hz) hc hn
theorem J_last {t : Tg} {N j : Nat} {f : Nat → Int64} {i : Int32} {x : Int64} (d : decode (mC M) pc = .ok (.lastore, 1)) (hh : h t = some (cL 2 N f)) (hi : ix i N j) (kk : J X M (pc + 1) ls st (hup h t (cL 2 N (vp_updL f j x))) k n Q) : J X M pc ls (vL x :: vI i :: vR (some t) :: st) h k n Q := by
  intro p e R s m args below meth c ψ0 h0 F ψ H locs cells slots la hR hE hL hs hl hz hc hn
  have hat : H[ψ t]? = some (arrV (xtc X 2) N (fun j => Value.long (f j))) := HR_at hR hh
  have hA := (F.2.2.2.2.2.2.2.1.1.2 2 _ (tysL_at (xtc X) (by decide))).1
  obtain ⟨hin, hj⟩ := hi
  refine W.last F.1 F.2.1 hat (hA N (fun j => .long (f j))) (fun q => by cases q) (by show ¬ (i < 0 ∨ (arrV _ _ _).slots.size ≤ _); rw [arrV_size]; exact hin) rfl rfl d fun H1 e1 e2 e3 => ?_
  have hnew : H1[ψ t]? = some (arrV (xtc X 2) N (fun q => Value.long (vp_updL f j x q))) := by
    rw [e1, arrV_store, hj]
    congr 2
    funext q
    by_cases hq : q = j
    · subst hq; simp [updV, vp_updL]
    · simp [updV, vp_updL, hq]
  have hR2 := HR_up hR hh e2 e3 (c := cL 2 N (vp_updL f j x)) hnew trivial
  exact kk p e R s m args below meth c ψ0 h0 F ψ H1 _ cells slots la hR2 (fun u hu => ⟨(hE u hu).1, Lt_up (hE u hu).2⟩) hL (fun w hw => Lv_mono (fun u => Lt_up) (hs w (List.mem_cons_of_mem _ (List.mem_cons_of_mem _ (List.mem_cons_of_mem _ hw))))) (fun w hw => Lv_mono (fun u => Lt_up) (hl w hw)) (xA_loc (hR.1 t _ hh).2.1 hz) hc hn
theorem J_aast {t u : Tg} {K N j ci N' : Nat} {f : Nat → Option Tg} {i : Int32} {C : String} {T : u_T} {fs : List LV} (d : decode (mC M) pc = .ok (.aastore, 1)) (hk : K < 7) (hkC : aTy K = .object C) (hcl : vwCl[ci]? = some (C, T, N')) (hh : h t = some (cQ K N f)) (hu : h u = some (cO ci fs)) (hi : ix i N j) (kk : J X M (pc + 1) ls st (hup h t (cQ K N (va_up f j (some u)))) k n Q) : J X M pc ls (vR (some u) :: vI i :: vR (some t) :: st) h k n Q := by
  intro p e R s m args below meth c ψ0 h0 F ψ H locs cells slots la hR hE hL hs hl hz hc hn
  have hat : H[ψ t]? = some (arrV (xtc X K) N (fun j => phR ψ (f j))) := HR_at hR hh
  have hKK := F.2.2.2.2.2.2.2.1.1
  obtain ⟨hin, hj⟩ := hi
  have hlt : i.toNatClampNeg < N := Nat.not_le.mp fun q => hin (Or.inr q)
  have h0' : ¬ i < 0 := fun q => hin (Or.inl q)
  obtain ⟨r', hr', cellV, g1, g2, g3, -⟩ := HR_at hR hu
  have hcls := (hKK.1 ci _ hcl).2
  have hra := (hKK.2 K _ (tysL_at (xtc X) hk)).2
  rw [hkC] at hra
  obtain ⟨kA, comp, k1, k2, k3, -⟩ := hra
  have hcomp : comp = (xD X).1 ci := Option.some.inj (k3.symm.trans hcls.1)
  subst hcomp
  have hr : r' = (C, T, N') := Option.some.inj (hr'.symm.trans hcl)
  subst hr
  obtain ⟨kC, hkCC, -⟩ := hcls.2
  refine W.aast F.1 F.2.1 hat (fun q h => by cases h) (fun h => by cases h) k1 k2 rfl hkCC ⟨h0', by show _ < (arrV _ _ _).slots.size; rw [arrV_size]; exact hlt⟩ g1 (fun q h => by rw [g3] at h; cases h) (by rw [g2]; exact hkCC) (by rw [g2]; exact va_assign hcls) rfl rfl d fun H1 e1 e2 e3 => ?_
  have hnew : H1[ψ t]? = some (arrV (xtc X K) N (fun q => va_rf ((va_up f j (some u) q).map ψ))) := by
    rw [e1, arrV_store, hj]
    congr 2
    funext q
    by_cases hq : q = j
    · subst hq; simp [updV, va_up, va_rf]
    · simp [updV, va_up, hq, phR]
  have hlc : Lc h (cQ K N (va_up f j (some u))) := by
    intro q w hw
    by_cases hq : q = j
    · subst hq
      have hw2 : some u = some w := by simpa [va_up] using hw
      cases hw2
      exact Or.inl (by rw [hu]; exact fun z => nomatch z)
    · rw [show va_up f j (some u) q = f q from if_neg hq] at hw
      exact (hR.1 t _ hh).2.2 q w hw
  have hR2 := HR_up hR hh e2 e3 (c := cQ K N (va_up f j (some u))) hnew hlc
  exact kk p e R s m args below meth c ψ0 h0 F ψ H1 _ cells slots la hR2 (fun u hu => ⟨(hE u hu).1, Lt_up (hE u hu).2⟩) hL (fun w hw => Lv_mono (fun u => Lt_up) (hs w (List.mem_cons_of_mem _ (List.mem_cons_of_mem _ (List.mem_cons_of_mem _ hw))))) (fun w hw => Lv_mono (fun u => Lt_up) (hl w hw)) (xA_loc (hR.1 t _ hh).2.1 hz) hc hn
theorem J_aastN {t : Tg} {K N j : Nat} {f : Nat → Option Tg} {i : Int32} {C : String} (d : decode (mC M) pc = .ok (.aastore, 1)) (hk : K < 7) (hkC : aTy K = .object C) (hh : h t = some (cQ K N f)) (hi : ix i N j) (kk : J X M (pc + 1) ls st (hup h t (cQ K N (va_up f j none))) k n Q) : J X M pc ls (vR none :: vI i :: vR (some t) :: st) h k n Q := by
  intro p e R s m args below meth c ψ0 h0 F ψ H locs cells slots la hR hE hL hs hl hz hc hn
  have hat : H[ψ t]? = some (arrV (xtc X K) N (fun j => phR ψ (f j))) := HR_at hR hh
  have hA := (F.2.2.2.2.2.2.2.1.1.2 K _ (tysL_at (xtc X) hk)).1
  rw [hkC] at hA
  obtain ⟨hin, hj⟩ := hi
  refine va_WaastN (C := C) F.1 F.2.1 hat (hA N (fun j => phR ψ (f j))) (fun h => by cases h) (by show ¬ (i < 0 ∨ (arrV _ _ _).slots.size ≤ _); rw [arrV_size]; exact hin) rfl rfl d fun H1 e1 e2 e3 => ?_
  have hnew : H1[ψ t]? = some (arrV (xtc X K) N (fun q => va_rf ((va_up f j none q).map ψ))) := by
    rw [e1, arrV_store, hj]
    congr 2
    funext q
    by_cases hq : q = j
    · subst hq; simp [updV, va_up, va_rf]
    · simp [updV, va_up, hq, phR]
  have hlc : Lc h (cQ K N (va_up f j none)) := by
    intro q w hw
    by_cases hq : q = j
    · subst hq
      have hw2 : none = some w := by simpa [va_up] using hw
      cases hw2
    · rw [show va_up f j none q = f q from if_neg hq] at hw
      exact (hR.1 t _ hh).2.2 q w hw
  have hR2 := HR_up hR hh e2 e3 (c := cQ K N (va_up f j none)) hnew hlc
  exact kk p e R s m args below meth c ψ0 h0 F ψ H1 _ cells slots la hR2 (fun u hu => ⟨(hE u hu).1, Lt_up (hE u hu).2⟩) hL (fun w hw => Lv_mono (fun u => Lt_up) (hs w (List.mem_cons_of_mem _ (List.mem_cons_of_mem _ (List.mem_cons_of_mem _ hw))))) (fun w hw => Lv_mono (fun u => Lt_up) (hl w hw)) (xA_loc (hR.1 t _ hh).2.1 hz) hc hn
theorem J_new {t : Tg} {idx ci N : Nat} {fs : List LV} (d : decode (mC M) pc = .ok (.new idx, 3)) (f : NI (mN M).cls idx ci fs N) (ht : h t = none) (hts : t ≠ tScr) (kk : J X M (pc + 3) ls (vR (some t) :: st) (hup h t (cO ci fs)) k n Q) : J X M pc ls st h (k + 1) (n + N) Q := by
  intro p e R s m args below meth c ψ0 h0 F ψ H locs cells slots la hR hE hL hs hl hz hc hn
  obtain ⟨C, T, ty, hC, hw1, hw2, hw3, hfs, hfr⟩ := f
  have hts0 := F.2.2.2.2.2.2.1
  have hKn := F.2.2.2.2.2.2.2.1.1.1 ci _ hC.1
  have hRR := F.2.2.2.2.2.2.2.2.1
  refine W.newcK F.1 F.2.1 F.2.2.2.2.2.1 (hts0 _ hw1) (hts0 _ hw2) (hts0 _ hw3) rfl d (by rw [hRR]; omega) (by rw [hRR]; omega) hKn.2.1 rfl fun H1 kC hkC e1 z1 o1 => ?_
  have hnew : va_at (xD X) vwCl (H.size, conc (xtc X) (upT ψ t H.size) (cO ci fs)) H1 := ⟨_, hC.1, (u_born ty hts0 hC.2.1 hKn hkC e1 hC.2.2.1).to (fun j hj => hfs _ j hj)⟩
  obtain ⟨hR2, hX2⟩ := HR_new hR ht hts z1 o1 hnew (fun g => freshL_lv hfr g)
  rw [show (Value.ref H.size :: st.map (ph ψ)) = (vR (some t) :: st).map (ph (upT ψ t H.size)) by
    rw [List.map_cons, ext_map hX2 hs]; show _ = Value.ref (upT ψ t H.size t) :: _; rw [show upT ψ t H.size t = H.size from if_pos rfl]]
  exact kk p e R s m args below meth c ψ0 h0 F (upT ψ t H.size) H1 locs (cells + 1) (slots + N) la hR2 (ext_tr hE hX2) (LRel_ext hX2 hl hL) (lv_cons (Or.inl (by rw [hup_s]; exact fun q => nomatch q)) (fun w hw => ext_lv hX2 (hs w hw))) (fun w hw => ext_lv hX2 (hl w hw)) hz (by omega) (by omega)
theorem J_newI {t : Tg} {N : Nat} {x : Int32} (d : decode (mC M) pc = .ok (.newarray .int, 2)) (hx : x = nI N) (hN : N ≤ 60000000) (hw : Cond.arrayClass .int ∈ GW) (ht : h t = none) (hts : t ≠ tScr) (kk : J X M (pc + 2) ls (vR (some t) :: st) (hup h t (cI 0 N (fun _ => 0))) k n Q) : J X M pc ls (vI x :: st) h (k + 1) (n + N) Q := by
  intro p e R s m args below meth c ψ0 h0 F ψ H locs cells slots la hR hE hL hs hl hz hc hn
  have hts0 := F.2.2.2.2.2.2.1
  have hRR := F.2.2.2.2.2.2.2.2.1
  subst hx
  refine va_newaK (atype := .int) F.1 F.2.1 (hts0 _ hw) rfl d rfl (nI_pos (by omega)) (nI_clamp (by omega)) (by show N * _ ≤ 536870912; simp only [newarray.typeOf, componentBytes]; omega) (by rw [hRR]; omega) (by rw [hRR]; omega) rfl fun H1 cA e1 z1 o1 hAr hNm => ?_
  have hcA : cA = xtc X 0 := Option.some.inj (hNm.symm.trans (F.2.2.2.2.2.2.2.1.1.2 0 _ (tysL_at (xtc X) (by decide))).2)
  subst hcA
  obtain ⟨hR2, hX2⟩ := HR_new hR ht hts z1 o1 (c := cI 0 N (fun _ => 0)) e1 (fun g => trivial)
  rw [show (Value.ref H.size :: st.map (ph ψ)) = (vR (some t) :: st).map (ph (upT ψ t H.size)) by
    rw [List.map_cons, ext_map hX2 (fun v hv => hs v (List.mem_cons_of_mem _ hv))]; show _ = Value.ref (upT ψ t H.size t) :: _; rw [show upT ψ t H.size t = H.size from if_pos rfl]]
  exact kk p e R s m args below meth c ψ0 h0 F (upT ψ t H.size) H1 locs (cells + 1) (slots + N) la hR2 (ext_tr hE hX2) (LRel_ext hX2 hl hL) (lv_cons (Or.inl (by rw [hup_s]; exact fun q => nomatch q)) (fun w hw => ext_lv hX2 (hs w (List.mem_cons_of_mem _ hw)))) (fun w hw => ext_lv hX2 (hl w hw)) hz (by omega) (by omega)
theorem J_newZ {t : Tg} {N : Nat} {x : Int32} (d : decode (mC M) pc = .ok (.newarray .boolean, 2)) (hx : x = nI N) (hN : N ≤ 60000000) (hw : Cond.arrayClass .boolean ∈ GW) (ht : h t = none) (hts : t ≠ tScr) (kk : J X M (pc + 2) ls (vR (some t) :: st) (hup h t (cI 1 N (fun _ => 0))) k n Q) : J X M pc ls (vI x :: st) h (k + 1) (n + N) Q := by
  intro p e R s m args below meth c ψ0 h0 F ψ H locs cells slots la hR hE hL hs hl hz hc hn
  have hts0 := F.2.2.2.2.2.2.1
  have hRR := F.2.2.2.2.2.2.2.2.1
  subst hx
  refine va_newaK (atype := .boolean) F.1 F.2.1 (hts0 _ hw) rfl d rfl (nI_pos (by omega)) (nI_clamp (by omega)) (by show N * _ ≤ 536870912; simp only [newarray.typeOf, componentBytes]; omega) (by rw [hRR]; omega) (by rw [hRR]; omega) rfl fun H1 cA e1 z1 o1 hAr hNm => ?_
  have hcA : cA = xtc X 1 := Option.some.inj (hNm.symm.trans (F.2.2.2.2.2.2.2.1.1.2 1 _ (tysL_at (xtc X) (by decide))).2)
  subst hcA
  obtain ⟨hR2, hX2⟩ := HR_new hR ht hts z1 o1 (c := cI 1 N (fun _ => 0)) e1 (fun g => trivial)
  rw [show (Value.ref H.size :: st.map (ph ψ)) = (vR (some t) :: st).map (ph (upT ψ t H.size)) by
    rw [List.map_cons, ext_map hX2 (fun v hv => hs v (List.mem_cons_of_mem _ hv))]; show _ = Value.ref (upT ψ t H.size t) :: _; rw [show upT ψ t H.size t = H.size from if_pos rfl]]
  exact kk p e R s m args below meth c ψ0 h0 F (upT ψ t H.size) H1 locs (cells + 1) (slots + N) la hR2 (ext_tr hE hX2) (LRel_ext hX2 hl hL) (lv_cons (Or.inl (by rw [hup_s]; exact fun q => nomatch q)) (fun w hw => ext_lv hX2 (hs w (List.mem_cons_of_mem _ hw)))) (fun w hw => ext_lv hX2 (hl w hw)) hz (by omega) (by omega)
theorem J_newL {t : Tg} {N : Nat} {x : Int32} (d : decode (mC M) pc = .ok (.newarray .long, 2)) (hx : x = nI N) (hN : N ≤ 60000000) (hw : Cond.arrayClass .long ∈ GW) (ht : h t = none) (hts : t ≠ tScr) (kk : J X M (pc + 2) ls (vR (some t) :: st) (hup h t (cL 2 N (fun _ => 0))) k n Q) : J X M pc ls (vI x :: st) h (k + 1) (n + N) Q := by
  intro p e R s m args below meth c ψ0 h0 F ψ H locs cells slots la hR hE hL hs hl hz hc hn
  have hts0 := F.2.2.2.2.2.2.1
  have hRR := F.2.2.2.2.2.2.2.2.1
  subst hx
  refine va_newaK (atype := .long) F.1 F.2.1 (hts0 _ hw) rfl d rfl (nI_pos (by omega)) (nI_clamp (by omega)) (by show N * _ ≤ 536870912; simp only [newarray.typeOf, componentBytes]; omega) (by rw [hRR]; omega) (by rw [hRR]; omega) rfl fun H1 cA e1 z1 o1 hAr hNm => ?_
  have hcA : cA = xtc X 2 := Option.some.inj (hNm.symm.trans (F.2.2.2.2.2.2.2.1.1.2 2 _ (tysL_at (xtc X) (by decide))).2)
  subst hcA
  obtain ⟨hR2, hX2⟩ := HR_new hR ht hts z1 o1 (c := cL 2 N (fun _ => 0)) e1 (fun g => trivial)
  rw [show (Value.ref H.size :: st.map (ph ψ)) = (vR (some t) :: st).map (ph (upT ψ t H.size)) by
    rw [List.map_cons, ext_map hX2 (fun v hv => hs v (List.mem_cons_of_mem _ hv))]; show _ = Value.ref (upT ψ t H.size t) :: _; rw [show upT ψ t H.size t = H.size from if_pos rfl]]
  exact kk p e R s m args below meth c ψ0 h0 F (upT ψ t H.size) H1 locs (cells + 1) (slots + N) la hR2 (ext_tr hE hX2) (LRel_ext hX2 hl hL) (lv_cons (Or.inl (by rw [hup_s]; exact fun q => nomatch q)) (fun w hw => ext_lv hX2 (hs w (List.mem_cons_of_mem _ hw)))) (fun w hw => ext_lv hX2 (hl w hw)) hz (by omega) (by omega)
theorem J_newQ {t : Tg} {K N idx : Nat} {x : Int32} {C : String} (d : decode (mC M) pc = .ok (.anewarray idx, 3)) (hx : x = nI N) (hN : N ≤ 60000000) (hk : K < 7) (hkC : aTy K = .object C) (hw : Cond.classLink (mN M).cls idx C ∈ GW) (ho : C ∈ aoL) (ht : h t = none) (hts : t ≠ tScr) (kk : J X M (pc + 3) ls (vR (some t) :: st) (hup h t (cQ K N (fun _ => none))) k n Q) : J X M pc ls (vI x :: st) h (k + 1) (n + N) Q := by
  intro p e R s m args below meth c ψ0 h0 F ψ H locs cells slots la hR hE hL hs hl hz hc hn
  have hts0 := F.2.2.2.2.2.2.1
  have hRR := F.2.2.2.2.2.2.2.2.1
  subst hx
  have hNN : (nI N).toNatClampNeg = N := nI_clamp (by omega)
  refine W.anew F.1 F.2.1 F.2.2.2.2.2.1 (hts0 _ hw) (va_AO.use (F.2.2.2.2.2.2.2.1.2.2.2.1 C ho)) rfl d rfl (nI_pos (by omega)) (by rw [hNN]; omega) (by rw [hRR]; omega) (by rw [hNN, hRR]; omega) fun cA kA comp f1 f2 f3 f4 => ?_
  rw [hNN]
  have hra := (F.2.2.2.2.2.2.2.1.1.2 K _ (tysL_at (xtc X) hk)).2
  rw [hkC] at hra
  obtain ⟨_, _, _, _, _, k4⟩ := hra
  have hcA : cA = xtc X K := Option.some.inj (f1.symm.trans k4)
  subst hcA
  generalize hH1 : H.push ({ cls := xtc X K, slots := Array.replicate N .null, vm := .none } : Cell) = H1
  have z1 : H1.size = H.size + 1 := by rw [← hH1, Array.size_push]
  have e1 : H1[H.size]? = some (arrV (xtc X K) N (fun _ => .null)) := by rw [← hH1, Array.getElem?_push_size, ← arrV_new]
  have o1 : ∀ q : Nat, q < H.size → H1[q]? = H[q]? := fun q hq => by rw [← hH1, Array.getElem?_push, if_neg (Nat.ne_of_lt hq)]
  obtain ⟨hR2, hX2⟩ := HR_new hR ht hts z1 o1 (c := cQ K N (fun _ => none)) e1 (fun g j u hu => nomatch hu)
  rw [show (Value.ref H.size :: st.map (ph ψ)) = (vR (some t) :: st).map (ph (upT ψ t H.size)) by
    rw [List.map_cons, ext_map hX2 (fun v hv => hs v (List.mem_cons_of_mem _ hv))]; show _ = Value.ref (upT ψ t H.size t) :: _; rw [show upT ψ t H.size t = H.size from if_pos rfl]]
  exact kk p e R s m args below meth c ψ0 h0 F (upT ψ t H.size) H1 locs (cells + 1) (slots + N) la hR2 (ext_tr hE hX2) (LRel_ext hX2 hl hL) (lv_cons (Or.inl (by rw [hup_s]; exact fun q => nomatch q)) (fun w hw => ext_lv hX2 (hs w (List.mem_cons_of_mem _ hw)))) (fun w hw => ext_lv hX2 (hl w hw)) hz (by omega) (by omega)
/-- the script -/
theorem J_slen (d : decode (mC M) pc = .ok (.arraylength, 1)) (kk : J X M (pc + 1) ls (vI (Int32.ofNat (xL X)) :: st) h k n Q) : J X M pc ls (vR (some tScr) :: st) h k n Q := by
  intro p e R s m args below meth c ψ0 h0 F ψ H locs cells slots la hR hE hL hs hl hz hc hn
  obtain ⟨-, -, g3, g4, g5, g6, g7⟩ := id hR
  obtain ⟨scr, q1, q2, q3, q4, q5⟩ := F.2.2.2.2.2.2.2.1.2.2.2.2.2.2.2.1
  have hcell : H[ψ tScr]? = some scr := by rw [g3, g7 _ g5]; exact q1
  refine W.alen F.1 F.2.1 hcell q2 (n := Int32.ofNat (xL X)) (by rw [q4]) rfl rfl d ?_
  exact kk p e R s m args below meth c ψ0 h0 F ψ H locs cells slots la hR hE hL (lv_cons trivial (fun v hv => hs v (List.mem_cons_of_mem _ hv))) hl hz hc hn
theorem J_sld {i : Int32} {j : Nat} (d : decode (mC M) pc = .ok (.iaload, 1)) (hi : ix i (xL X) j) (kk : J X M (pc + 1) ls (vI (xs X j) :: st) h k n Q) : J X M pc ls (vI i :: vR (some tScr) :: st) h k n Q := by
  intro p e R s m args below meth c ψ0 h0 F ψ H locs cells slots la hR hE hL hs hl hz hc hn
  obtain ⟨-, -, g3, g4, g5, g6, g7⟩ := id hR
  obtain ⟨scr, q1, q2, q3, q4, q5⟩ := F.2.2.2.2.2.2.2.1.2.2.2.2.2.2.2.1
  have hcell : H[ψ tScr]? = some scr := by rw [g3, g7 _ g5]; exact q1
  have hlt := ix_lt hi
  obtain ⟨hin, hj⟩ := hi
  refine W.iald (v := .int (xs X j)) F.1 F.2.1 hcell q2 q3 (by rw [q4]; exact hin) (by rw [hj]; exact q5 j hlt) rfl rfl d ?_
  exact kk p e R s m args below meth c ψ0 h0 F ψ H locs cells slots la hR hE hL (lv_cons trivial (fun v hv => hs v (List.mem_cons_of_mem _ (List.mem_cons_of_mem _ hv)))) hl hz hc hn
/-- Object.<init> -/
theorem J_obj {t : Tg} {idx : Nat} (d : decode (mC M) pc = .ok (.invokespecial idx, 3)) (hw1 : Cond.methodLink (mN M).cls idx Lib.objectInit ∈ GW) (hw2 : Cond.instanceMethod Lib.objectInit ∈ GW) (hw3 : Cond.code Lib.objectInit ⟨#[0xb1]⟩ 1 none ∈ GW) (hf : 1 ≤ (mR M).frames) (hlo : 12 ≤ (mR M).locals) (kk : J X M (pc + 3) ls [] h k n Q) : J X M pc ls [vR (some t)] h k n Q := by
  intro p e R s m args below meth c ψ0 h0 F ψ H locs cells slots la hR hE hL hs hl hz hc hn
  have hts0 := F.2.2.2.2.2.2.1
  have hRR := F.2.2.2.2.2.2.2.2.1
  refine W.objInit (a := ψ t) (rest := []) F.1 F.2.1 F.2.2.2.2.2.1 (hts0 _ hw1) (hts0 _ hw2) (hts0 _ hw3) rfl (by show la.size = _; rw [hL.1, F.2.2.1]) rfl d (by rw [hRR]; exact hf) (by rw [hRR]; show 2 * 0 + 0 + 12 ≤ _; omega) ?_
  exact kk p e R s m args below meth c ψ0 h0 F ψ H locs cells slots la hR hE hL (fun v hv => nomatch hv) hl hz hc hn
/-- the ends -/
theorem J_iret {x : Int32} (d : decode (mC M) pc = .ok (.ireturn, 1)) (hT : mT M = some .int) (hq : Q (rt (vI x)) h) : J X M pc ls [vI x] h k n Q := by
  intro p e R s m args below meth c ψ0 h0 F ψ H locs cells slots la hR hE hL hs hl hz hc hn
  refine W.widen (k := (mR M).cells) (n := (mR M).slots) (by omega) (by omega) (vx_ret ?_)
  exact W.iret F.1 F.2.1 (F.2.2.2.1.trans hT) (fun t ht hW => ⟨some (vI x), h, ψ, rfl, hq, by rw [ht]; exact hR, hE, fun w hw => by cases hw; trivial⟩) hz d F.2.2.2.2.1
theorem J_zret {x : Int32} (d : decode (mC M) pc = .ok (.ireturn, 1)) (hT : mT M = some .boolean) (hx : xzb x) (hq : Q (rt (vI x)) h) : J X M pc ls [vI x] h k n Q := by
  intro p e R s m args below meth c ψ0 h0 F ψ H locs cells slots la hR hE hL hs hl hz hc hn
  refine W.widen (k := (mR M).cells) (n := (mR M).slots) (by omega) (by omega) (vx_ret ?_)
  exact W.zret F.1 F.2.1 (F.2.2.2.1.trans hT) (xzb_nar hx) (fun t ht hW => ⟨some (vI x), h, ψ, rfl, hq, by rw [ht]; exact hR, hE, fun w hw => by cases hw; trivial⟩) hz d F.2.2.2.2.1
theorem J_vret (d : decode (mC M) pc = .ok (.return_, 1)) (hT : mT M = none) (hq : Q rv h) : J X M pc ls [] h k n Q := by
  intro p e R s m args below meth c ψ0 h0 F ψ H locs cells slots la hR hE hL hs hl hz hc hn
  refine W.widen (k := (mR M).cells) (n := (mR M).slots) (by omega) (by omega) (vx_ret ?_)
  exact W.vret F.1 F.2.1 (F.2.2.2.1.trans hT) (fun t ht hW => ⟨none, h, ψ, rfl, hq, by rw [ht]; exact hR, hE, fun w hw => nomatch hw⟩) hz d F.2.2.2.2.1
theorem J_aret {r : Option Tg} {C : String} (d : decode (mC M) pc = .ok (.areturn, 1)) (hT : mT M = some (.object C)) (hq : Q (rt (vR r)) h) : J X M pc ls [vR r] h k n Q := by
  intro p e R s m args below meth c ψ0 h0 F ψ H locs cells slots la hR hE hL hs hl hz hc hn
  refine W.widen (k := (mR M).cells) (n := (mR M).slots) (by omega) (by omega) (vx_ret ?_)
  exact W.aret F.1 F.2.1 (F.2.2.2.1.trans hT) (Or.inl ⟨C, rfl⟩) (by cases r with
    | none => exact Or.inl rfl
    | some t => exact Or.inr ⟨ψ t, rfl⟩) (fun t ht hW => ⟨some (vR r), h, ψ, rfl, hq, by rw [ht]; exact hR, hE, fun w hw => by cases hw; exact hs _ List.mem_cons_self⟩) hz d F.2.2.2.2.1
end JA
end
section
/-! A METHOD'S ENTRY, CALLS, THROWS AND CATCHES -/
theorem args_in (ψ : Tg → Nat) : ∀ (as : List LV) (i j : Nat) (v : LV), as.all c1 = true → as[j]? = some v → (i + j, ph ψ v) ∈ lv_args i (as.map (ph ψ)) := by
  intro as
  induction as with
  | nil => intro i j v _ h; simp at h
  | cons w as ih =>
    intro i j v hc h
    simp only [List.all_cons, Bool.and_eq_true] at hc
    have hcat : (ph ψ w).category = 1 := c1_cat hc.1
    show _ ∈ (i, ph ψ w) :: lv_args (if (ph ψ w).category = 2 then i + 2 else i + 1) (as.map (ph ψ))
    rw [hcat, if_neg (by decide)]
    cases j with
    | zero => simp at h; subst h; exact List.mem_cons_self
    | succ j =>
      rw [List.getElem?_cons_succ] at h
      have := ih (i + 1) j v hc.2 h
      rw [show i + 1 + j = i + (j + 1) by omega] at this
      exact List.mem_cons_of_mem _ this
theorem sl_len (ψ : Tg → Nat) (as : List LV) (hc : as.all c1 = true) : (lg_sl (as.map (ph ψ))).length = as.length := by
  induction as with
  | nil => rfl
  | cons w as ih =>
    simp only [List.all_cons, Bool.and_eq_true] at hc
    have hcat : (ph ψ w).category = 1 := c1_cat hc.1
    have h1 := ih hc.2
    unfold lg_sl at h1 ⊢
    rw [List.map_cons, List.flatMap_cons, hcat, if_neg (by decide), List.length_append, h1]
    simp [Nat.add_comm]
theorem CT_of {X : GX} {M : MI} {as : List LV} {h : LH} {Q : LO → LH → Prop} (hy : plainName (mN M).cls = true) (hc : as.all c1 = true) (hlen : as.length ≤ mL M)
    (body : J X M 0 (as.map some ++ List.replicate (mL M - as.length) none) [] h (mR M).cells (mR M).slots Q) : CT X M as h Q := by
  intro ψ
  have main : ∀ p e s m args below meth c s₁, BodyLoose p (xl X) (mN M) (headSpec (wsO M) (mR M)) (mC M) (mL M) (mT M) e s m args below meth c s₁ → c.maxLocals = mL M → c.exceptionTable.toList = tableOf (mH M) → va_Pc (as.map (ph ψ)) (fun U => KK X U ∧ HR X ψ h U.heap ∧ ∀ v ∈ as, Lv h v) args s →
      W p (xl X) e (headSpec (wsO M) (mR M)).room s m args below meth c s.heap [] 0 0 (vx_MQ below (QR X ψ h Q) (QX X ψ h Q) args s (mR M).cells (mR M).slots (xA X)) (entryFrame m args (mL M)) := by
    intro p e s m args below meth c s₁ B hml htab hP
    obtain ⟨rfl, hK, hR, hA⟩ := hP
    have hts := atoms_spec (ws := wsO M) B.pre
    have F : FOK X M p (mR M) s m (as.map (ph ψ)).toArray meth c := ⟨B.exec, B.bytes, hml, B.returns, B.notSynchronized, findClass_of_methodNamed B.named, fun w hw => hts w (List.mem_cons_of_mem _ hw), hK, rfl, htab, (name_of_methodNamed B.named B.method).1, hR.2.2.2.2.2.1, hR.2.2.2.2.2.2⟩
    have hl := lv_entry (as.map (ph ψ)) (n := mL M) (by rw [sl_len ψ as hc]; exact hlen)
    rw [lg_entry_eq]
    refine body p e _ s m _ below meth c ψ h F ψ s.heap [] 0 0 _ hR ext_rf ⟨hl.1, hl.2.1, fun i v hv => ?_⟩ (fun v hv => nomatch hv) (fun v hv => ?_) (fun z hz => nomatch hz) (by omega) (by omega)
    · by_cases hi : i < as.length
      · rw [List.getElem?_append_left (by simpa using hi), List.getElem?_map] at hv
        cases hw : as[i]? with
        | none => rw [hw] at hv; cases hv
        | some w =>
          rw [hw] at hv
          cases hv
          have h1 := hl.2.2 (0 + i, ph ψ v) (args_in ψ as 0 i v hc hw)
          rw [Nat.zero_add] at h1
          exact ⟨h1, c1_cat (List.all_eq_true.mp hc v (List.mem_of_getElem? hw))⟩
      · rw [List.getElem?_append_right (by simpa using hi)] at hv
        have := List.mem_of_getElem? hv
        have h2 := (List.mem_replicate.mp this).2
        cases h2
    · rcases List.mem_append.mp hv with h1 | h1
      · obtain ⟨w, hw, e⟩ := List.mem_map.mp h1
        cases e
        exact hA v hw
      · have h2 := (List.mem_replicate.mp h1).2
        cases h2
  by_cases hh : (mH M).isEmpty = true
  · refine vx_ofW (cc := mC M) (maxL := mL M) (ret := mT M) hy (ws' := GW) (by unfold wsO; rw [if_pos hh]) fun p e s m args below meth c s₁ B hml ht hP => main p e s m args below meth c s₁ B hml ?_ hP
    have h1 : mH M = [] := List.isEmpty_iff.mp hh
    rw [h1]
    cases hx : c.exceptionTable.toList with
    | nil => rfl
    | cons x xs => exact (ht x (by rw [hx]; exact List.mem_cons_self)).elim
  · refine vx_ofWH (cc := mC M) (maxL := mL M) (ret := mT M) (hh := mH M) hy (ws' := GW) (by unfold wsO; rw [if_neg hh]) fun p e s m args below meth c s₁ B hml hP => main p e s m args below meth c s₁ B hml ?_ hP
    have hts := atoms_spec (ws := wsO M) B.pre
    refine vx_table (x := mN M) (bytes := mC M) (maxL' := mL M) (ret' := mT M) (hh := mH M) B (hts _ ?_)
    unfold wsO
    rw [if_neg hh]
    exact List.mem_cons_self
theorem GW_good {w : Cond} (h : w ∈ GW) : (w.onTables && w.keeps) = true ∨ ∃ ty, w = .arrayClass ty := good_of_word (List.mem_filter.mp h).2
theorem GW_of {w : Cond} {i : Nat} (h : lw_tbl[i]? = some w) (hg : goodWord w = true) : w ∈ GW := List.mem_filter.mpr ⟨List.mem_of_getElem? h, hg⟩
theorem EW_of {w : Cond} {i : Nat} (h : lw_tbl[i]? = some w) (hg : mvWord w = true) : w ∈ EW := List.mem_filter.mpr ⟨List.mem_of_getElem? h, hg⟩
/-- a callee whose code stands in the tables -/
def KI (M : MI) (n : Nat) : Prop := (mH M) = [] ∧ Cond.code (mN M) (mC M) (mL M) (mT M) ∈ GW ∧ Cond.initialized (mN M).cls ∈ GW ∧ ((mN M).cls ≠ "java/lang/invoke/MethodHandle" ∧ (mN M).cls ≠ "java/lang/invoke/VarHandle") ∧ (parseMethodDescriptor (mN M).desc).map (fun d => d.parameters.length) = some n
theorem KI_good {M : MI} {n : Nat} (f : KI M n) : GoodIn GW (wsO M) ∧ wsO M = Cond.code (mN M) (mC M) (mL M) (mT M) :: GW := by
  have e : wsO M = Cond.code (mN M) (mC M) (mL M) (mT M) :: GW := by unfold wsO; rw [f.1]; rfl
  refine ⟨fun w hw => ?_, e⟩
  rw [e] at hw
  rcases List.mem_cons.mp hw with rfl | hw
  · exact ⟨f.2.1, GW_good f.2.1⟩
  · exact ⟨hw, GW_good hw⟩
theorem cat_sum (ψ : Tg → Nat) : ∀ st : List LV, ((st.map (ph ψ)).map fun v => v.category).sum ≤ 2 * st.length := by
  intro st
  induction st with
  | nil => simp
  | cons v st ih =>
    have h1 : (ph ψ v).category ≤ 2 := by rcases lv_cat (ph ψ v) with h | h <;> omega
    simp only [List.map_cons, List.sum_cons, List.length_cons]
    omega
/-- the room of a callee -/
def rmOK (M M' : MI) : Prop := (mR M').frames + 1 ≤ (mR M).frames ∧ 8 + (mL M' + 11) + (mR M').locals ≤ (mR M).locals
theorem Pc_blind {X : GX} {ψ : Tg → Nat} {h : LH} {as : List LV} : FrameBlind (va_Pc (as.map (ph ψ)) (fun U => KK X U ∧ HR X ψ h U.heap ∧ ∀ v ∈ as, Lv h v)) := fun a U g mk q => ⟨q.1, KK.warm (s := U) (U := U.calling g mk a) (State.WarmedH.refl U) q.2.1, q.2.2.1, q.2.2.2⟩
section JC
variable {X : GX} {M M' : MI} {pc : Nat} {ls : List (Option LV)} {rest st as : List LV} {h : LH} {k n k' n' : Nat} {Q : LO → LH → Prop} {P : Option LV → LH → Prop}
/-- behind a call that returns -/
theorem back_call {st0 : List Value} {p : Program} {e : Env} {R : Room} {s : State} {m : MethodId} {args : Array Value} {below : List Frame} {meth : Method} {c : Code} {ψ0 ψ : Tg → Nat} {h0 : LH} {H : Heap} {locs : List Loc} {cells slots : Nat} {la : Array Slot} {a : Array Value}
    (hr : va_Run p (xl X) e R s m args below meth c H locs cells slots (mR M').cells (mR M').slots (F0 m pc la st0) (rest.map (ph ψ)) (QR X ψ h (rQ P) a) (xA X))
    (F : FOK X M p R s m args meth c) (hE : ext ψ0 ψ h0 h) (hL : LRel ψ ls la (mL M)) (hs : ∀ v ∈ rest, Lv h v) (hl : ∀ v, some v ∈ ls → Lv h v) (hz : ∀ z ∈ locs, xA X z.base) (hc : cells + (mR M').cells + k' ≤ (mR M).cells) (hn : slots + (mR M').slots + n' ≤ (mR M).slots)
    (kk : ∀ v h', P v h' → J X M (pc + 3) ls (v.toList ++ rest) h' k' n' Q) :
    W p (xl X) e R s m args below meth c H locs cells slots (vx_MQ below (QR X ψ0 h0 Q) (QX X ψ0 h0 Q) args s (mR M).cells (mR M).slots (xA X)) (F0 m pc la st0) := by
  intro T hT Y
  obtain ⟨v, st₀, t, T', L, g0, Y', hLo, e1, e2, ⟨v', h', ψ', hv, hP, hR', hE', hlv⟩, st⟩ := hr T hT Y
  cases hv
  have hgo := kk v' h' hP p e R s m args below meth c ψ0 h0 F ψ' T'.heap (locs ++ L) (cells + (mR M').cells) (slots + (mR M').slots) la (by rw [e1]; exact hR') (ext_tr hE hE') (LRel_ext hE' hl hL)
    (fun w hw => by
      rcases List.mem_append.mp hw with q | q
      · exact hlv w (by simpa using q)
      · exact ext_lv hE' (hs w q)) (fun w hw => ext_lv hE' (hl w hw)) (fun z q => by
      rcases List.mem_append.mp q with q | q
      · exact hz z q
      · exact hLo z q) hc hn
  obtain ⟨t2, a1, b1⟩ := hgo T' rfl Y'
  refine ⟨t2, st t2 ?_, b1⟩
  have e3 : (v'.toList ++ rest).map (ph ψ') = (v'.map (ph ψ')).toList ++ rest.map (ph ψ) := by
    rw [List.map_append, ext_map hE' hs]
    cases v' <;> rfl
  rw [e3] at a1
  exact a1
def WI (own : String) (idx : Nat) (M' : MI) (n : Nat) : Prop := mH M' ≠ [] ∧ Cond.codeWith (mN M') (mC M') (mL M') (mT M') (mH M') ∈ GW ∧ Cond.initialized (mN M').cls ∈ GW ∧ ((mN M').cls ≠ "java/lang/invoke/MethodHandle" ∧ (mN M').cls ≠ "java/lang/invoke/VarHandle") ∧ Cond.methodLink own idx (mN M') ∈ GW ∧ Cond.static (mN M') ∈ GW ∧ (parseMethodDescriptor (mN M').desc).map (fun d => d.parameters.length) = some n
/-- the handler that takes kind kq, thrown at pc: at hp it is stored in the local i -/
def HI (M : MI) (pc kq hp i len : Nat) : Prop := ∃ (pre : List (Nat × Nat × Nat × Nat)) (x : Nat × Nat × Nat × Nat) (suf : List (Nat × Nat × Nat × Nat)), mH M = pre ++ x :: suf ∧
  (∀ z ∈ pre, covers ⟨z.1, z.2.1, z.2.2.1, z.2.2.2⟩ pc = false ∨ (z.2.2.2 ≠ 0 ∧ ∃ nm : String, Cond.classLink (mN M).cls z.2.2.2 nm ∈ GW ∧ (exN kq, nm) ∈ ncL)) ∧
  covers ⟨x.1, x.2.1, x.2.2.1, x.2.2.2⟩ pc = true ∧ x.2.2.2 ≠ 0 ∧ Cond.classLink (mN M).cls x.2.2.2 (exN kq) ∈ GW ∧ Cond.castable (exN kq) (exN kq) ∈ EW ∧ x.2.2.1 = hp ∧ i < mL M ∧
  ((∃ i' : Fin 4, (i' : Nat) = i ∧ decode (mC M) hp = .ok (.astore_n i', 1) ∧ len = 1) ∨ (decode (mC M) hp = .ok (.astore i, 2) ∧ len = 2))
def VI (own : String) (idx : Nat) (M' : MI) (n ci : Nat) : Prop := KI M' n ∧ Cond.methodLink own idx (mN M') ∈ GW ∧ Cond.instanceMethod (mN M') ∈ GW ∧ Cond.selects (mN M').cls (mN M') (mN M') ∈ GW ∧ ∃ (T : u_T) (N : Nat), vwCl[ci]? = some ((mN M').cls, T, N)
def SI (own : String) (idx : Nat) (M' : MI) (n : Nat) : Prop := KI M' n ∧ Cond.methodLink own idx (mN M') ∈ GW ∧ Cond.static (mN M') ∈ GW
def II (own : String) (idx : Nat) (M' : MI) (n : Nat) : Prop := KI M' n ∧ Cond.methodLink own idx (mN M') ∈ GW ∧ Cond.instanceMethod (mN M') ∈ GW ∧ (mN M').name = "<init>"
def IN (own : String) (idx : Nat) (M' : MI) (n : Nat) (host : String) : Prop := KI M' n ∧ Cond.methodLinkNest own idx (mN M') host ∈ EW ∧ Cond.instanceMethod (mN M') ∈ GW ∧ (mN M').name = "<init>"
theorem recv {X : GX} {M : MI} {p : Program} {R : Room} {s : State} {m : MethodId} {args : Array Value} {meth : Method} {c : Code} (F : FOK X M p R s m args meth c) {ψ : Tg → Nat} {h : LH} {H : Heap} (hR : HR X ψ h H) {t : Tg} {ci : Nat} {fs : List LV} (hh : h t = some (cO ci fs)) {C : String} {T : u_T} {N : Nat} (hcl : vwCl[ci]? = some (C, T, N)) :
    ∃ cellB : Cell, H[ψ t]? = some cellB ∧ cellB.vm.isStatics = false ∧ s.vm.findClass C = some cellB.cls := by
  obtain ⟨r, h1, cell, q1, q2, q3, q4⟩ := HR_at hR hh
  have hr : r = (C, T, N) := Option.some.inj (h1.symm.trans hcl)
  subst hr
  exact ⟨cell, q1, by rw [q3]; rfl, by rw [q2]; exact (F.2.2.2.2.2.2.2.1.1.1 ci _ hcl).2.1⟩
theorem J_callV {t : Tg} {idx ci : Nat} {fs : List LV} (d : decode (mC M) pc = .ok (.invokevirtual idx, 3)) (f : VI (mN M).cls idx M' as.length ci) (hrm : rmOK M M') (hh : h t = some (cO ci fs)) (hst : st = as.reverse ++ vR (some t) :: rest) (hlen : rest.length ≤ 4) (hk : k' + (mR M').cells ≤ k) (hn' : n' + (mR M').slots ≤ n)
    (hc : CT X M' (vR (some t) :: as) h (rQ P)) (kk : ∀ v h', P v h' → J X M (pc + 3) ls (v.toList ++ rest) h' k' n' Q) : J X M pc ls st h k n Q := by
  intro p e R s m args below meth c ψ0 h0 F ψ H locs cells slots la hR hE hL hs hl hz hcc hnn
  subst hst
  obtain ⟨f1, f2, f3, f4, T, N, f5⟩ := f
  obtain ⟨hG, hws⟩ := KI_good f1
  have hts := F.2.2.2.2.2.2.1
  have hRR := F.2.2.2.2.2.2.2.2.1
  have cw : CallW R s args (mN M).cls (mN M').cls idx (mN M') (mC M') (mL M') (mT M') (wsO M') (mR M') (mR M').cells (mR M').slots as.length :=
    ⟨callB_of as.length hts hG hws rfl rfl (hts _ f1.2.2.1) (hts _ f2) ⟨f1.2.2.2.1.1, f1.2.2.2.1.2, f1.2.2.2.2⟩ (by rw [hRR]; exact hrm), hts _ f3, hts _ f4⟩
  have hrest : ∀ v ∈ rest, Lv h v := fun v hv => hs v (List.mem_append_right _ (List.mem_cons_of_mem _ hv))
  have hargs : ∀ v ∈ vR (some t) :: as, Lv h v := fun v hv => by
    rcases List.mem_cons.mp hv with rfl | hv
    · exact hs _ (List.mem_append_right _ List.mem_cons_self)
    · exact hs v (List.mem_append_left _ (List.mem_reverse.mpr hv))
  have hr := va_runV (cells := cells) (slots := slots) (locs := locs) (p := p) (l := xl X) (e := e) (below := below) (meth := meth) (b := ψ t) (As := as.map (ph ψ)) (rest := rest.map (ph ψ)) (g := F0 m pc la ((as.reverse ++ vR (some t) :: rest).map (ph ψ))) ⟨F.1, F.2.1, F.2.2.1, F.2.2.2.2.2.1, hts⟩ (CT.met hc ψ) cw
    ⟨Pc_blind (as := vR (some t) :: as), recv F hR hh f5, fun U hU hW => ⟨rfl, KK.warm hW F.2.2.2.2.2.2.2.1, by rw [hU]; exact hR, hargs⟩⟩ rfl (by rw [List.length_map]) hL.1 (by
      show (as.reverse ++ vR (some t) :: rest).map (ph ψ) = _
      rw [List.map_append, List.map_reverse, List.map_cons]; rfl) (by
      have := cat_sum ψ rest
      show 2 * 0 + _ ≤ 8
      omega) d (by rw [hRR]; omega)
  exact back_call hr F hE hL hrest hl hz (by omega) (by omega) kk
theorem J_callS {idx : Nat} (d : decode (mC M) pc = .ok (.invokestatic idx, 3)) (f : SI (mN M).cls idx M' as.length) (hrm : rmOK M M') (hst : st = as.reverse ++ rest) (hlen : rest.length ≤ 4) (hk : k' + (mR M').cells ≤ k) (hn' : n' + (mR M').slots ≤ n)
    (hc : CT X M' as h (rQ P)) (kk : ∀ v h', P v h' → J X M (pc + 3) ls (v.toList ++ rest) h' k' n' Q) : J X M pc ls st h k n Q := by
  intro p e R s m args below meth c ψ0 h0 F ψ H locs cells slots la hR hE hL hs hl hz hcc hnn
  subst hst
  obtain ⟨f1, f2, f3⟩ := f
  obtain ⟨hG, hws⟩ := KI_good f1
  have hts := F.2.2.2.2.2.2.1
  have hRR := F.2.2.2.2.2.2.2.2.1
  have cb : CallB R s args (mN M).cls idx (mN M') (mC M') (mL M') (mT M') (wsO M') (mR M') (mR M').cells (mR M').slots as.length :=
    callB_of as.length hts hG hws rfl rfl (hts _ f1.2.2.1) (hts _ f2) ⟨f1.2.2.2.1.1, f1.2.2.2.1.2, f1.2.2.2.2⟩ (by rw [hRR]; exact hrm)
  have hrest : ∀ v ∈ rest, Lv h v := fun v hv => hs v (List.mem_append_right _ hv)
  have hargs : ∀ v ∈ as, Lv h v := fun v hv => hs v (List.mem_append_left _ (List.mem_reverse.mpr hv))
  have hr := va_runS (cells := cells) (slots := slots) (locs := locs) (p := p) (l := xl X) (e := e) (below := below) (meth := meth) (As := as.map (ph ψ)) (rest := rest.map (ph ψ)) (g := F0 m pc la ((as.reverse ++ rest).map (ph ψ))) ⟨F.1, F.2.1, F.2.2.1, F.2.2.2.2.2.1, hts⟩ (CT.met hc ψ) ⟨cb, hts _ f3⟩
    ⟨Pc_blind, fun U hU hW => ⟨rfl, KK.warm hW F.2.2.2.2.2.2.2.1, by rw [hU]; exact hR, hargs⟩⟩ rfl (by rw [List.length_map]) hL.1 (by
      show (as.reverse ++ rest).map (ph ψ) = _
      rw [List.map_append, List.map_reverse]) (by
      have := cat_sum ψ rest
      show 2 * 0 + _ ≤ 8
      omega) d (by rw [hRR]; omega)
  exact back_call hr F hE hL hrest hl hz (by omega) (by omega) kk
theorem J_callI {t : Tg} {idx : Nat} (d : decode (mC M) pc = .ok (.invokespecial idx, 3)) (f : II (mN M).cls idx M' as.length) (hT : mT M' = none) (hrm : rmOK M M') (hst : st = as.reverse ++ vR (some t) :: rest) (hlen : rest.length ≤ 4) (hk : k' + (mR M').cells ≤ k) (hn' : n' + (mR M').slots ≤ n)
    (hc : CT X M' (vR (some t) :: as) h (rQ P)) (kk : ∀ v h', P v h' → J X M (pc + 3) ls (v.toList ++ rest) h' k' n' Q) : J X M pc ls st h k n Q := by
  intro p e R s m args below meth c ψ0 h0 F ψ H locs cells slots la hR hE hL hs hl hz hcc hnn
  subst hst
  obtain ⟨f1, f2, f3, f4⟩ := f
  obtain ⟨hG, hws⟩ := KI_good f1
  have hts := F.2.2.2.2.2.2.1
  have hRR := F.2.2.2.2.2.2.2.2.1
  rw [hT] at hws
  have cb : CallB R s args (mN M).cls idx (mN M') (mC M') (mL M') none (wsO M') (mR M') (mR M').cells (mR M').slots as.length :=
    callB_of as.length hts hG hws rfl rfl (hts _ f1.2.2.1) (hts _ f2) ⟨f1.2.2.2.1.1, f1.2.2.2.1.2, f1.2.2.2.2⟩ (by rw [hRR]; exact hrm)
  have hrest : ∀ v ∈ rest, Lv h v := fun v hv => hs v (List.mem_append_right _ (List.mem_cons_of_mem _ hv))
  have hargs : ∀ v ∈ vR (some t) :: as, Lv h v := fun v hv => by
    rcases List.mem_cons.mp hv with rfl | hv
    · exact hs _ (List.mem_append_right _ List.mem_cons_self)
    · exact hs v (List.mem_append_left _ (List.mem_reverse.mpr hv))
  have hr := va_runI (cells := cells) (slots := slots) (locs := locs) (p := p) (l := xl X) (e := e) (below := below) (meth := meth) (b := ψ t) (As := as.map (ph ψ)) (rest := rest.map (ph ψ)) (g := F0 m pc la ((as.reverse ++ vR (some t) :: rest).map (ph ψ))) ⟨F.1, F.2.1, F.2.2.1, F.2.2.2.2.2.1, hts⟩ (CT.met hc ψ) ⟨cb, f4, hts _ f3⟩
    ⟨Pc_blind (as := vR (some t) :: as), fun U hU hW => ⟨rfl, KK.warm hW F.2.2.2.2.2.2.2.1, by rw [hU]; exact hR, hargs⟩⟩ rfl (by rw [List.length_map]) hL.1 (by
      show (as.reverse ++ vR (some t) :: rest).map (ph ψ) = _
      rw [List.map_append, List.map_reverse, List.map_cons]; rfl) (by
      have := cat_sum ψ rest
      show 2 * 0 + _ ≤ 8
      omega) d (by rw [hRR]; omega)
  exact back_call hr F hE hL hrest hl hz (by omega) (by omega) kk
theorem J_callN {t : Tg} {idx : Nat} {host : String} (d : decode (mC M) pc = .ok (.invokespecial idx, 3)) (f : IN (mN M).cls idx M' as.length host) (hT : mT M' = none) (hrm : rmOK M M') (hst : st = as.reverse ++ vR (some t) :: rest) (hlen : rest.length ≤ 4) (hk : k' + (mR M').cells ≤ k) (hn' : n' + (mR M').slots ≤ n)
    (hc : CT X M' (vR (some t) :: as) h (rQ P)) (kk : ∀ v h', P v h' → J X M (pc + 3) ls (v.toList ++ rest) h' k' n' Q) : J X M pc ls st h k n Q := by
  intro p e R s m args below meth c ψ0 h0 F ψ H locs cells slots la hR hE hL hs hl hz hcc hnn
  subst hst
  obtain ⟨f1, f2, f3, f4⟩ := f
  obtain ⟨hG, hws⟩ := KI_good f1
  have hts := F.2.2.2.2.2.2.1
  have hRR := F.2.2.2.2.2.2.2.2.1
  rw [hT] at hws
  have cb : va_CN R s args (mN M).cls idx (mN M') host (mC M') (mL M') none (wsO M') (mR M') (mR M').cells (mR M').slots as.length :=
    va_cnB as.length hts hG hws rfl rfl (F.2.2.2.2.2.2.2.1.2.2.1 _ f2) (hts _ f1.2.2.1) ⟨f1.2.2.2.1.1, f1.2.2.2.1.2, f1.2.2.2.2⟩ (by rw [hRR]; exact hrm)
  have hrest : ∀ v ∈ rest, Lv h v := fun v hv => hs v (List.mem_append_right _ (List.mem_cons_of_mem _ hv))
  have hargs : ∀ v ∈ vR (some t) :: as, Lv h v := fun v hv => by
    rcases List.mem_cons.mp hv with rfl | hv
    · exact hs _ (List.mem_append_right _ List.mem_cons_self)
    · exact hs v (List.mem_append_left _ (List.mem_reverse.mpr hv))
  have hr := va_runIN (cells := cells) (slots := slots) (locs := locs) (p := p) (l := xl X) (e := e) (below := below) (meth := meth) (b := ψ t) (As := as.map (ph ψ)) (rest := rest.map (ph ψ)) (g := F0 m pc la ((as.reverse ++ vR (some t) :: rest).map (ph ψ))) ⟨F.1, F.2.1, F.2.2.1, F.2.2.2.2.2.1, hts⟩ (CT.met hc ψ) ⟨cb, f4, hts _ f3⟩
    ⟨Pc_blind (as := vR (some t) :: as), fun U hU hW => ⟨rfl, KK.warm hW F.2.2.2.2.2.2.2.1, by rw [hU]; exact hR, hargs⟩⟩ rfl (by rw [List.length_map]) hL.1 (by
      show (as.reverse ++ vR (some t) :: rest).map (ph ψ) = _
      rw [List.map_append, List.map_reverse, List.map_cons]; rfl) (by
      have := cat_sum ψ rest
      show 2 * 0 + _ ≤ 8
      omega) d (by rw [hRR]; omega)
  exact back_call hr F hE hL hrest hl hz (by omega) (by omega) kk
/-- behind a call that returns, or throws -/
theorem J_callW {idx : Nat} (d : decode (mC M) pc = .ok (.invokestatic idx, 3)) (f : WI (mN M).cls idx M' as.length) (hrm : rmOK M M') (hst : st = as.reverse ++ rest) (hlen : rest.length ≤ 4) (hk : k' + (mR M').cells ≤ k) (hn' : n' + (mR M').slots ≤ n)
    (hc : CT X M' as h (rQ P)) (kk : ∀ v h', P v h' → J X M (pc + 3) ls (v.toList ++ rest) h' k' n' Q) : J X M pc ls st h k n Q := by
  intro p e R s m args below meth c ψ0 h0 F ψ H locs cells slots la hR hE hL hs hl hz hcc hnn
  subst hst
  obtain ⟨f0, f1, f2, f3, f4, f5, f6⟩ := f
  have hts := F.2.2.2.2.2.2.1
  have hRR := F.2.2.2.2.2.2.2.2.1
  have hws : wsO M' = Cond.codeWith (mN M') (mC M') (mL M') (mT M') (mH M') :: GW := by
    unfold wsO
    cases hm : mH M' with
    | nil => exact absurd hm f0
    | cons x xs => rfl
  have hGG : GoodIn GW (va_wsS (mN M).cls idx (mN M') (wsO M')) := by
    intro w hw
    rcases List.mem_append.mp hw with hw | hw
    · rcases List.mem_cons.mp hw with rfl | hw
      · exact ⟨f4, GW_good f4⟩
      · rcases List.mem_cons.mp hw with rfl | hw
        · exact ⟨f5, GW_good f5⟩
        · rcases List.mem_cons.mp hw with rfl | hw
          · exact ⟨f2, GW_good f2⟩
          · cases hw
    · rw [hws] at hw
      rcases List.mem_cons.mp hw with rfl | hw
      · exact ⟨f1, GW_good f1⟩
      · exact ⟨hw, GW_good hw⟩
  have cw : vx_CSW R s args (mN M).cls idx (mN M') (mC M') (mL M') (mT M') (mH M') (wsO M') (mR M') (mR M').cells (mR M').slots as.length :=
    vx_cwSW as.length hts hGG hws rfl rfl ⟨f3.1, f3.2, f6⟩ (by rw [hRR]; exact hrm)
  have hrest : ∀ v ∈ rest, Lv h v := fun v hv => hs v (List.mem_append_right _ hv)
  have hargs : ∀ v ∈ as, Lv h v := fun v hv => hs v (List.mem_append_left _ (List.mem_reverse.mpr hv))
  have hr := vx_runSW (cells := cells) (slots := slots) (locs := locs) (p := p) (l := xl X) (e := e) (below := below) (meth := meth) (As := as.map (ph ψ)) (rest := rest.map (ph ψ)) (g := F0 m pc la ((as.reverse ++ rest).map (ph ψ))) ⟨F.1, F.2.1, F.2.2.1, F.2.2.2.2.2.1, hts⟩ (CT.met hc ψ) cw
    ⟨Pc_blind, fun U hU hW => ⟨rfl, KK.warm hW F.2.2.2.2.2.2.2.1, by rw [hU]; exact hR, hargs⟩⟩ rfl (by rw [List.length_map]) hL.1 (by
      show (as.reverse ++ rest).map (ph ψ) = _
      rw [List.map_append, List.map_reverse]) (by
      have := cat_sum ψ rest
      show 2 * 0 + _ ≤ 8
      omega) d (by rw [hRR]; omega)
  exact back_call hr F hE hL hrest hl hz (by omega) (by omega) kk
/-- a call of a method that may throw, in a frame that catches what it throws -/
theorem J_callX {t : Tg} {idx ci : Nat} {fs : List LV} {Qc : LO → LH → Prop} (d : decode (mC M) pc = .ok (.invokevirtual idx, 3)) (f : VI (mN M).cls idx M' as.length ci) (hrm : rmOK M M') (hh : h t = some (cO ci fs)) (hst : st = as.reverse ++ vR (some t) :: rest) (hlen : rest.length ≤ 4) (hk : k' + (mR M').cells ≤ k) (hn' : n' + (mR M').slots ≤ n)
    (hc : CT X M' (vR (some t) :: as) h Qc) (kx : ∀ kq h', Qc (.inr kq) h' → ∃ hp i len, HI M pc kq hp i len ∧ J X M (hp + len) (ls.set i none) [] h' k' n' Q) (kk : ∀ v h', Qc (.inl v) h' → J X M (pc + 3) ls (v.toList ++ rest) h' k' n' Q) : J X M pc ls st h k n Q := by
  intro p e R s m args below meth c ψ0 h0 F ψ H locs cells slots la hR hE hL hs hl hz hcc hnn
  subst hst
  obtain ⟨f1, f2, f3, f4, T, N, f5⟩ := f
  obtain ⟨hG, hws⟩ := KI_good f1
  have hts := F.2.2.2.2.2.2.1
  have hRR := F.2.2.2.2.2.2.2.2.1
  have cw : CallW R s args (mN M).cls (mN M').cls idx (mN M') (mC M') (mL M') (mT M') (wsO M') (mR M') (mR M').cells (mR M').slots as.length :=
    ⟨callB_of as.length hts hG hws rfl rfl (hts _ f1.2.2.1) (hts _ f2) ⟨f1.2.2.2.1.1, f1.2.2.2.1.2, f1.2.2.2.2⟩ (by rw [hRR]; exact hrm), hts _ f3, hts _ f4⟩
  have hrest : ∀ v ∈ rest, Lv h v := fun v hv => hs v (List.mem_append_right _ (List.mem_cons_of_mem _ hv))
  have hargs : ∀ v ∈ vR (some t) :: as, Lv h v := fun v hv => by
    rcases List.mem_cons.mp hv with rfl | hv
    · exact hs _ (List.mem_append_right _ List.mem_cons_self)
    · exact hs v (List.mem_append_left _ (List.mem_reverse.mpr hv))
  have hr := vx_runV (cells := cells) (slots := slots) (locs := locs) (p := p) (l := xl X) (e := e) (below := below) (meth := meth) (b := ψ t) (As := as.map (ph ψ)) (rest := rest.map (ph ψ)) (g := F0 m pc la ((as.reverse ++ vR (some t) :: rest).map (ph ψ))) ⟨F.1, F.2.1, F.2.2.1, F.2.2.2.2.2.1, hts⟩ (hc ψ) cw
    ⟨Pc_blind (as := vR (some t) :: as), recv F hR hh f5, fun U hU hW => ⟨rfl, KK.warm hW F.2.2.2.2.2.2.2.1, by rw [hU]; exact hR, hargs⟩⟩ rfl (by rw [List.length_map]) hL.1 (by
      show (as.reverse ++ vR (some t) :: rest).map (ph ψ) = _
      rw [List.map_append, List.map_reverse, List.map_cons]; rfl) (by
      have := cat_sum ψ rest
      show 2 * 0 + _ ≤ 8
      omega) d (by rw [hRR]; omega)
  intro T hT Y
  rcases hr T hT Y with ⟨v, st₀, t1, T', L, g0, Y', hLo, e1, e2, ⟨v', h', ψ', hv, hP, hR', hE', hlv⟩, st⟩ | ⟨q, st₀, t1, T', L, E, ce, g0, Y', hLo, e1, e2, ⟨kq, h', ψ', hE1, hP, hR', hE'⟩, hce, hcv, hcl, st⟩
  · cases hv
    have hgo := kk v' h' hP p e R s m args below meth c ψ0 h0 F ψ' T'.heap (locs ++ L) (cells + (mR M').cells) (slots + (mR M').slots) la (by rw [e1]; exact hR') (ext_tr hE hE') (LRel_ext hE' hl hL)
      (fun w hw => by
        rcases List.mem_append.mp hw with q | q
        · exact hlv w (by simpa using q)
        · exact ext_lv hE' (hrest w q)) (fun w hw => ext_lv hE' (hl w hw)) (fun z q => by
        rcases List.mem_append.mp q with q | q
        · exact hz z q
        · exact hLo z q) (by omega) (by omega)
    obtain ⟨t2, a1, b1⟩ := hgo T' rfl Y'
    refine ⟨t2, st t2 ?_, b1⟩
    have e3 : (v'.toList ++ rest).map (ph ψ') = (v'.map (ph ψ')).toList ++ rest.map (ph ψ) := by
      rw [List.map_append, ext_map hE' hrest]
      cases v' <;> rfl
    rw [e3] at a1
    exact a1
  · subst hE1
    obtain ⟨hp, i, len, ⟨pre, x, suf, hsp, hpass, hcov, hne, hlk, hcast, hhp, hil, hdec⟩, hJ⟩ := kx kq h' hP
    have hgo : ∀ la', LRel ψ' (ls.set i none) la' (mL M) → W p (xl X) e R s m args below meth c T'.heap (locs ++ L) (cells + (mR M').cells) (slots + (mR M').slots) (vx_MQ below (QR X ψ0 h0 Q) (QX X ψ0 h0 Q) args s (mR M).cells (mR M).slots (xA X)) (F0 m (hp + len) la' []) := fun la' hL' =>
      hJ p e R s m args below meth c ψ0 h0 F ψ' T'.heap (locs ++ L) (cells + (mR M').cells) (slots + (mR M').slots) la' (by rw [e1]; exact hR') (ext_tr hE hE') hL' (fun w hw => nomatch hw) (fun w hw => by
        rcases List.mem_or_eq_of_mem_set hw with h1 | h1
        · exact ext_lv hE' (hl w h1)
        · cases h1) (fun z q => by
        rcases List.mem_append.mp q with q | q
        · exact hz z q
        · exact hLo z q) (by omega) (by omega)
    have hL2 : LRel ψ' ls la (mL M) := LRel_ext hE' hl hL
    have hstore : ∀ la', lv_has la' (mL M) ((i, Value.ref q) :: (toL ψ' ls).filter (fun z => !(z.1 == i) && !(z.1 + 1 == i && z.2.category == 2))) → LRel ψ' (ls.set i none) la' (mL M) := by
      intro la' hh2
      refine ⟨hh2.1, hh2.2.1, fun j w hw => ?_⟩
      by_cases hj : j = i
      · subst hj
        have hlt : j < ls.length := by
          have := (List.getElem?_eq_some_iff.mp hw).1
          simpa using this
        rw [List.getElem?_set_self hlt] at hw
        cases hw
      · rw [List.getElem?_set_ne (Ne.symm hj)] at hw
        have hcat := (hL2.2.2 j w hw).2
        exact ⟨hh2.2.2 (j, ph ψ' w) (List.mem_cons_of_mem _ (List.mem_filter.mpr ⟨toL_in hw, by simp [hj, hcat]⟩)), hcat⟩
    have hKK := F.2.2.2.2.2.2.2.1
    have hcat := va_Nw.use (A := args) (mv_tabs (List.mem_filter.mp hcast).2) (hKK.2.2.1 _ hcast)
    have hW : W p (xl X) e R s m args below meth c T'.heap (locs ++ L) (cells + (mR M').cells) (slots + (mR M').slots) (vx_MQ below (QR X ψ0 h0 Q) (QX X ψ0 h0 Q) args s (mR M).cells (mR M).slots (xA X)) (F0 m hp la [Value.ref q]) := by
      rcases hdec with ⟨i', hi', hdd, rfl⟩ | ⟨hdd, rfl⟩
      · exact lv_astore_n F.1 F.2.1 hdd hi' (LRel_has hL2) hil rfl (fun la' hh2 => hgo la' (hstore la' hh2))
      · exact lv_astore F.1 F.2.1 hdd (LRel_has hL2) hil rfl (fun la' hh2 => hgo la' (hstore la' hh2))
    have hce' : T'.heap[q]? = some ce := by rw [e1]; exact hce
    have hfin := vx_catch (pc := pc) (rest := rest.map (ph ψ)) (ls := la) F.2.2.2.2.2.1 (tableOf pre) ⟨x.1, x.2.1, x.2.2.1, x.2.2.2⟩ (tableOf suf) (by rw [F.2.2.2.2.2.2.2.2.2.1, hsp]; simp [tableOf])
      (fun z hz => by
        obtain ⟨z0, hz0, rfl⟩ := List.mem_map.mp hz
        rcases hpass z0 hz0 with h1 | ⟨h1, nm, h2, h3⟩
        · exact Or.inl h1
        · exact Or.inr ⟨h1, nm, hts _ h2, hKK.2.2.2.2.1 _ h3⟩) hcov hne (hts _ hlk) hcat hce' hcv hcl (by rw [show (ExceptionTableEntry.mk x.1 x.2.1 x.2.2.1 x.2.2.2).handlerPc = hp from hhp]; exact hW)
    obtain ⟨t2, a1, b1⟩ := hfin T' rfl Y'
    exact ⟨t2, st.trans a1, b1⟩
theorem HR_grow {X : GX} {ψ : Tg → Nat} {h : LH} {H H1 : Heap} (hR : HR X ψ h H) (hz : H.size ≤ H1.size) (ho : ∀ q, q < H.size → H1[q]? = H[q]?) : HR X ψ h H1 := by
  obtain ⟨g1, g2, g3, g4, g5, g6, g7⟩ := id hR
  exact ⟨fun t c hh => ⟨(g1 t c hh).1.kept (ho _ (HR_lt hR hh)), (g1 t c hh).2⟩, g2, g3, g4, g5, by omega, fun q hq => by rw [ho q (by omega)]; exact g7 q hq⟩
/-- 'throw new E("text")' -/
def exS : List String := ["java/lang/RuntimeException", "java/lang/Exception"]
def TI (ik is ic kq : Nat) : Prop := (∃ text, (is, text) ∈ strL) ∧ Cond.classLink RX7 ik (exN kq) ∈ GW ∧ Cond.initialized (exN kq) ∈ GW ∧ Bundle.fit (exN kq) = true ∧ (vx_atS RX7 ic (exN kq) exS).all (fun w => goodWord w || mvWord w) = true ∧ ∀ w ∈ vx_atS RX7 ic (exN kq) exS, w ∈ lw_tbl
theorem J_throwA {ik is ic kq : Nat} (hlk : (mN M).cls = RX7) (hH : mH M = []) (f : TI ik is ic kq) (hfr : 5 < (mR M).frames) (hlo : 2 * st.length + 82 ≤ (mR M).locals) (hk : 1 ≤ k) (hn : 6 ≤ n) (hq : Q (.inr kq) h)
    (dd : (decode (mC M) pc = .ok (.new ik, 3) ∧ decode (mC M) (pc + 3) = .ok (.dup, 1) ∧ decode (mC M) (pc + 4) = .ok (.ldc is, 2) ∧ decode (mC M) (pc + 6) = .ok (.invokespecial ic, 3) ∧ decode (mC M) (pc + 9) = .ok (.athrow, 1)) ∨
      (decode (mC M) pc = .ok (.new ik, 3) ∧ decode (mC M) (pc + 3) = .ok (.dup, 1) ∧ decode (mC M) (pc + 4) = .ok (.ldc_w is, 3) ∧ decode (mC M) (pc + 7) = .ok (.invokespecial ic, 3) ∧ decode (mC M) (pc + 10) = .ok (.athrow, 1))) : J X M pc ls st h k n Q := by
  intro p e R s m args below meth c ψ0 h0 F ψ H locs cells slots la hR hE hL hs hl hz hcc hnn
  obtain ⟨⟨text, f1⟩, f2, f3, f4, f5, f6⟩ := f
  have hts := F.2.2.2.2.2.2.1
  have hRR := F.2.2.2.2.2.2.2.2.1
  have hKK := F.2.2.2.2.2.2.2.1
  obtain ⟨sa, hsa⟩ := hKK.2.1 _ f1
  have hb := F.2.2.2.2.2.2.2.2.2.2.2
  have hkp : ∀ a : Nat, a < (xB X).size → ¬ xA X a → s.heap[a]? = (xB X)[a]? := fun a ha _ => hb.2 a ha
  have htab : ∀ x ∈ c.exceptionTable.toList, False := by
    intro x hx
    rw [F.2.2.2.2.2.2.2.2.2.1, hH] at hx
    cases hx
  have hw5 : ∀ w ∈ vx_atS RX7 ic (exN kq) exS, w.before args s = true := by
    intro w hw
    have h1 := List.all_eq_true.mp f5 w hw
    rw [Bool.or_eq_true] at h1
    rcases h1 with h1 | h1
    · exact hts _ (List.mem_filter.mpr ⟨f6 w hw, h1⟩)
    · exact va_Nw.use (mv_tabs h1) (hKK.2.2.1 _ (List.mem_filter.mpr ⟨f6 w hw, h1⟩))
  have hgood : ∀ w ∈ Cond.classLink RX7 ik (exN kq) :: Cond.initialized (exN kq) :: vx_atS RX7 ic (exN kq) exS, vx_ot w = true := by
    intro w hw
    rcases List.mem_cons.mp hw with rfl | hw
    · rfl
    · rcases List.mem_cons.mp hw with rfl | hw
      · rfl
      · have h1 := List.all_eq_true.mp f5 w hw
        rw [Bool.or_eq_true] at h1
        unfold vx_ot
        rcases h1 with h1 | h1
        · rw [h1, Bool.or_true]
        · rw [mv_tabs h1, Bool.true_or]
  have hown : s.vm.findClass RX7 = some m.cls := hlk ▸ F.2.2.2.2.2.1
  have hsum := cat_sum ψ st
  intro T hT Y
  have hsz : s.heap.size ≤ H.size := by
    have := (vx_frame (s := s) (U := T) Y.same).1
    rw [hT] at this
    exact this
  have hS : va_S (xA X) s.heap H locs := ⟨hsz, fun q h1 h2 => by
    have hq : q < (xB X).size := Nat.not_le.mp h2
    rw [hR.2.2.2.2.2.2 q hq, hb.2 q hq], hz⟩
  have hx : ∀ t : State, s.vm.Alike t.vm → H.size ≤ t.heap.size → (∀ q : Nat, q < H.size → t.heap[q]? = H[q]?) → QX X ψ0 h0 Q (exN kq) s t := fun t _ h1 h2 => ⟨kq, h, ψ, rfl, hq, HR_grow hR h1 h2, hE⟩
  rcases dd with ⟨d0, d3, d4, d6, d9⟩ | ⟨d0, d3, d4, d6, d9⟩
  · exact vx_throwS (names := exS) F.1 F.2.1 hKK.2.2.2.2.2.2.2.2 hown f4 (by decide +kernel) (hts _ f2) (hts _ f3) hsa hw5 hgood (hKK.2.2.2.2.2.1.kept hkp) (hKK.2.2.2.2.2.2.1.kept hkp) hS (by rw [hL.1, F.2.2.1]) d0 d3 d4 d6 d9 (fun x hx => (htab x hx).elim)
      (by rw [hRR]; exact hfr) (by rw [hRR]; show _ + (13 * (2 + 1) + 43) ≤ _; omega) (by rw [hRR]; omega) (by rw [hRR]; omega) F.2.2.2.2.1 hx hz (by omega) (by omega) T hT Y
  · exact vx_throwSW (names := exS) F.1 F.2.1 hKK.2.2.2.2.2.2.2.2 hown f4 (by decide +kernel) (hts _ f2) (hts _ f3) hsa hw5 hgood (hKK.2.2.2.2.2.1.kept hkp) (hKK.2.2.2.2.2.2.1.kept hkp) hS (by rw [hL.1, F.2.2.1]) d0 d3 d4 d6 d9 (fun x hx => (htab x hx).elim)
      (by rw [hRR]; exact hfr) (by rw [hRR]; show _ + (13 * (2 + 1) + 43) ≤ _; omega) (by rw [hRR]; omega) (by rw [hRR]; omega) F.2.2.2.2.1 hx hz (by omega) (by omega) T hT Y
end JC
end
section
/-! THE TABLES OF THIS CLAIM: by program (gentab.py) -/
theorem aw_int : Cond.arrayClass .int ∈ GW := GW_of (i := 131) (by decide +kernel) rfl
theorem aw_bool : Cond.arrayClass .boolean ∈ GW := GW_of (i := 1023) (by decide +kernel) rfl
theorem aw_long : Cond.arrayClass .long ∈ GW := GW_of (i := 1254) (by decide +kernel) rfl
theorem u_ws_in {C : String} {T : u_T} {N : Nat} (ps : List Nat) (h : (u_ws C T N).map some = ps.map (fun i => lw_tbl[i]?)) (hg : (u_ws C T N).all goodWord = true) : ∀ w ∈ u_ws C T N, w ∈ GW := by
  intro w hw
  have h1 : some w ∈ (u_ws C T N).map some := List.mem_map.mpr ⟨w, hw, rfl⟩
  rw [h] at h1
  obtain ⟨i, -, hi⟩ := List.mem_map.mp h1
  exact GW_of hi (List.all_eq_true.mp hg w hw)
theorem okX0 : ClsOK 0 RX0 TX0 8 tyX0 := ⟨rfl, u_ws_in [802, 804, 806, 808, 810, 812, 814, 816] (by decide +kernel) (by decide +kernel), tyX0_ok, nmX0⟩
theorem okX1 : ClsOK 1 RX1 TX1 5 tyX1 := ⟨rfl, u_ws_in [300, 302, 304, 306, 308] (by decide +kernel) (by decide +kernel), tyX1_ok, nmX1⟩
theorem okX2 : ClsOK 2 RX2 TX2 10 tyX2 := ⟨rfl, u_ws_in [573, 575, 577, 579, 581, 583, 585, 587, 589, 591] (by decide +kernel) (by decide +kernel), tyX2_ok, nmX2⟩
theorem okX3 : ClsOK 3 RX3 TX3 6 tyX3 := ⟨rfl, u_ws_in [93, 95, 97, 99, 101, 103] (by decide +kernel) (by decide +kernel), tyX3_ok, nmX3⟩
theorem okX4 : ClsOK 4 RX4 TX4 5 tyX4 := ⟨rfl, u_ws_in [120, 122, 124, 126, 128] (by decide +kernel) (by decide +kernel), tyX4_ok, nmX4⟩
theorem okX5 : ClsOK 5 RX5 TX5 3 tyX5 := ⟨rfl, u_ws_in [144, 146, 148] (by decide +kernel) (by decide +kernel), tyX5_ok, nmX5⟩
theorem okX6 : ClsOK 6 RX6 TX6 4 tyX6 := ⟨rfl, u_ws_in [353, 355, 357, 359] (by decide +kernel) (by decide +kernel), tyX6_ok, nmX6⟩
theorem okX7 : ClsOK 7 RX7 TX7 10 tyX7 := ⟨rfl, u_ws_in [161, 163, 165, 167, 169, 171, 173, 175, 177, 179] (by decide +kernel) (by decide +kernel), tyX7_ok, nmX7⟩
theorem okX8 : ClsOK 8 RX8 TX8 34 tyX8 := ⟨rfl, u_ws_in [954, 956, 958, 960, 962, 964, 966, 968, 970, 972, 974, 976, 978, 980, 982, 984, 986, 988, 990, 992, 994, 996, 998, 1000, 1002, 1004, 1006, 1008, 1010, 1012, 1014, 1016, 1018, 1020] (by decide +kernel) (by decide +kernel), tyX8_ok, nmX8⟩
theorem fi_X7_11 : FI RX7 11 7 1 (.array (.object "PisteLine$Fencer")) true := ⟨RX7, TX7, 10, tyX7, okX7, GW_of (i := 152) (by decide +kernel) rfl, by decide, rfl, by decide +kernel, rfl⟩
theorem fi_X7_17 : FI RX7 17 7 3 (.array (.object "PisteLine$Weapon")) true := ⟨RX7, TX7, 10, tyX7, okX7, GW_of (i := 154) (by decide +kernel) rfl, by decide, rfl, by decide +kernel, rfl⟩
theorem fi_X7_23 : FI RX7 23 7 5 (.array (.object "PisteLine$Bout")) true := ⟨RX7, TX7, 10, tyX7, okX7, GW_of (i := 156) (by decide +kernel) rfl, by decide, rfl, by decide +kernel, rfl⟩
theorem fi_X7_30 : FI RX7 30 7 7 (.object "PisteLine$Piste") true := ⟨RX7, TX7, 10, tyX7, okX7, GW_of (i := 158) (by decide +kernel) rfl, by decide, rfl, by decide +kernel, rfl⟩
theorem fi_X7_37 : FI RX7 37 7 8 (.object "PisteLine$Tableau") true := ⟨RX7, TX7, 10, tyX7, okX7, GW_of (i := 159) (by decide +kernel) rfl, by decide, rfl, by decide +kernel, rfl⟩
theorem fi_X7_44 : FI RX7 44 7 9 (.object "PisteLine$Tally") true := ⟨RX7, TX7, 10, tyX7, okX7, GW_of (i := 160) (by decide +kernel) rfl, by decide, rfl, by decide +kernel, rfl⟩
theorem fi_X7_48 : FI RX7 48 7 0 (.boolean) true := ⟨RX7, TX7, 10, tyX7, okX7, GW_of (i := 151) (by decide +kernel) rfl, by decide, rfl, by decide +kernel, rfl⟩
theorem fi_X7_52 : FI RX7 52 7 2 (.int) false := ⟨RX7, TX7, 10, tyX7, okX7, GW_of (i := 153) (by decide +kernel) rfl, by decide, rfl, by decide +kernel, rfl⟩
theorem fi_X7_79 : FI RX7 79 7 4 (.int) false := ⟨RX7, TX7, 10, tyX7, okX7, GW_of (i := 155) (by decide +kernel) rfl, by decide, rfl, by decide +kernel, rfl⟩
theorem fi_X7_98 : FI RX7 98 6 2 (.int) false := ⟨RX6, TX6, 4, tyX6, okX6, GW_of (i := 350) (by decide +kernel) rfl, by decide, rfl, by decide +kernel, rfl⟩
theorem fi_X7_101 : FI RX7 101 3 4 (.object "PisteLine$Phrase") false := ⟨RX3, TX3, 6, tyX3, okX3, GW_of (i := 90) (by decide +kernel) rfl, by decide, rfl, by decide +kernel, rfl⟩
theorem fi_X7_111 : FI RX7 111 6 1 (.int) true := ⟨RX6, TX6, 4, tyX6, okX6, GW_of (i := 348) (by decide +kernel) rfl, by decide, rfl, by decide +kernel, rfl⟩
theorem fi_X7_125 : FI RX7 125 0 1 (.int) false := ⟨RX0, TX0, 8, tyX0, okX0, GW_of (i := 789) (by decide +kernel) rfl, by decide, rfl, by decide +kernel, rfl⟩
theorem fi_X7_132 : FI RX7 132 0 2 (.int) false := ⟨RX0, TX0, 8, tyX0, okX0, GW_of (i := 792) (by decide +kernel) rfl, by decide, rfl, by decide +kernel, rfl⟩
theorem fi_X7_141 : FI RX7 141 0 4 (.int) false := ⟨RX0, TX0, 8, tyX0, okX0, GW_of (i := 796) (by decide +kernel) rfl, by decide, rfl, by decide +kernel, rfl⟩
theorem fi_X7_149 : FI RX7 149 3 1 (.object "PisteLine$Bout") false := ⟨RX3, TX3, 6, tyX3, okX3, GW_of (i := 83) (by decide +kernel) rfl, by decide, rfl, by decide +kernel, rfl⟩
theorem fi_X7_167 : FI RX7 167 3 2 (.object "PisteLine$Weapon") false := ⟨RX3, TX3, 6, tyX3, okX3, GW_of (i := 86) (by decide +kernel) rfl, by decide, rfl, by decide +kernel, rfl⟩
theorem fi_X7_170 : FI RX7 170 3 3 (.object "PisteLine$Weapon") false := ⟨RX3, TX3, 6, tyX3, okX3, GW_of (i := 88) (by decide +kernel) rfl, by decide, rfl, by decide +kernel, rfl⟩
theorem fi_X7_195 : FI RX7 195 2 6 (.int) false := ⟨RX2, TX2, 10, tyX2, okX2, GW_of (i := 567) (by decide +kernel) rfl, by decide, rfl, by decide +kernel, rfl⟩
theorem fi_X7_209 : FI RX7 209 2 9 (.int) false := ⟨RX2, TX2, 10, tyX2, okX2, GW_of (i := 572) (by decide +kernel) rfl, by decide, rfl, by decide +kernel, rfl⟩
theorem fi_X7_216 : FI RX7 216 3 5 (.boolean) false := ⟨RX3, TX3, 6, tyX3, okX3, GW_of (i := 92) (by decide +kernel) rfl, by decide, rfl, by decide +kernel, rfl⟩
theorem fi_X7_249 : FI RX7 249 3 0 (.int) false := ⟨RX3, TX3, 6, tyX3, okX3, GW_of (i := 81) (by decide +kernel) rfl, by decide, rfl, by decide +kernel, rfl⟩
theorem fi_X7_254 : FI RX7 254 0 7 (.object "PisteLine$Tally") true := ⟨RX0, TX0, 8, tyX0, okX0, GW_of (i := 801) (by decide +kernel) rfl, by decide, rfl, by decide +kernel, rfl⟩
theorem fi_X7_266 : FI RX7 266 0 0 (.boolean) true := ⟨RX0, TX0, 8, tyX0, okX0, GW_of (i := 787) (by decide +kernel) rfl, by decide, rfl, by decide +kernel, rfl⟩
theorem fi_X7_284 : FI RX7 284 7 6 (.int) false := ⟨RX7, TX7, 10, tyX7, okX7, GW_of (i := 157) (by decide +kernel) rfl, by decide, rfl, by decide +kernel, rfl⟩
theorem fi_X7_290 : FI RX7 290 1 2 (.int) false := ⟨RX1, TX1, 5, tyX1, okX1, GW_of (i := 297) (by decide +kernel) rfl, by decide, rfl, by decide +kernel, rfl⟩
theorem fi_X7_320 : FI RX7 320 4 0 (.int) false := ⟨RX4, TX4, 5, tyX4, okX4, GW_of (i := 114) (by decide +kernel) rfl, by decide, rfl, by decide +kernel, rfl⟩
theorem fi_X7_328 : FI RX7 328 4 1 (.int) false := ⟨RX4, TX4, 5, tyX4, okX4, GW_of (i := 116) (by decide +kernel) rfl, by decide, rfl, by decide +kernel, rfl⟩
theorem fi_X7_335 : FI RX7 335 6 3 (.boolean) false := ⟨RX6, TX6, 4, tyX6, okX6, GW_of (i := 352) (by decide +kernel) rfl, by decide, rfl, by decide +kernel, rfl⟩
theorem fi_X0_11 : FI RX0 11 0 3 (.array (.object "PisteLine$Phrase")) true := ⟨RX0, TX0, 8, tyX0, okX0, GW_of (i := 794) (by decide +kernel) rfl, by decide, rfl, by decide +kernel, rfl⟩
theorem fi_X0_17 : FI RX0 17 0 5 (.int) false := ⟨RX0, TX0, 8, tyX0, okX0, GW_of (i := 798) (by decide +kernel) rfl, by decide, rfl, by decide +kernel, rfl⟩
theorem fi_X0_21 : FI RX0 21 0 6 (.int) false := ⟨RX0, TX0, 8, tyX0, okX0, GW_of (i := 799) (by decide +kernel) rfl, by decide, rfl, by decide +kernel, rfl⟩
theorem fi_X0_27 : FI RX0 27 0 7 (.object "PisteLine$Tally") true := ⟨RX0, TX0, 8, tyX0, okX0, GW_of (i := 800) (by decide +kernel) rfl, by decide, rfl, by decide +kernel, rfl⟩
theorem fi_X0_31 : FI RX0 31 0 0 (.boolean) true := ⟨RX0, TX0, 8, tyX0, okX0, GW_of (i := 786) (by decide +kernel) rfl, by decide, rfl, by decide +kernel, rfl⟩
theorem fi_X0_35 : FI RX0 35 0 1 (.int) false := ⟨RX0, TX0, 8, tyX0, okX0, GW_of (i := 788) (by decide +kernel) rfl, by decide, rfl, by decide +kernel, rfl⟩
theorem fi_X0_38 : FI RX0 38 0 2 (.int) false := ⟨RX0, TX0, 8, tyX0, okX0, GW_of (i := 791) (by decide +kernel) rfl, by decide, rfl, by decide +kernel, rfl⟩
theorem fi_X0_45 : FI RX0 45 0 4 (.int) false := ⟨RX0, TX0, 8, tyX0, okX0, GW_of (i := 795) (by decide +kernel) rfl, by decide, rfl, by decide +kernel, rfl⟩
theorem fi_X0_51 : FI RX0 51 5 0 (.int) false := ⟨RX5, TX5, 3, tyX5, okX5, GW_of (i := 139) (by decide +kernel) rfl, by decide, rfl, by decide +kernel, rfl⟩
theorem fi_X0_54 : FI RX0 54 2 9 (.int) false := ⟨RX2, TX2, 10, tyX2, okX2, GW_of (i := 571) (by decide +kernel) rfl, by decide, rfl, by decide +kernel, rfl⟩
theorem fi_X0_80 : FI RX0 80 5 2 (.int) false := ⟨RX5, TX5, 3, tyX5, okX5, GW_of (i := 143) (by decide +kernel) rfl, by decide, rfl, by decide +kernel, rfl⟩
theorem fi_X0_81 : FI RX0 81 5 1 (.int) false := ⟨RX5, TX5, 3, tyX5, okX5, GW_of (i := 141) (by decide +kernel) rfl, by decide, rfl, by decide +kernel, rfl⟩
theorem fi_X1_7 : FI RX1 7 1 0 (.int) true := ⟨RX1, TX1, 5, tyX1, okX1, GW_of (i := 294) (by decide +kernel) rfl, by decide, rfl, by decide +kernel, rfl⟩
theorem fi_X1_13 : FI RX1 13 1 1 (.int) false := ⟨RX1, TX1, 5, tyX1, okX1, GW_of (i := 295) (by decide +kernel) rfl, by decide, rfl, by decide +kernel, rfl⟩
theorem fi_X1_16 : FI RX1 16 1 2 (.int) false := ⟨RX1, TX1, 5, tyX1, okX1, GW_of (i := 296) (by decide +kernel) rfl, by decide, rfl, by decide +kernel, rfl⟩
theorem fi_X1_19 : FI RX1 19 1 3 (.int) false := ⟨RX1, TX1, 5, tyX1, okX1, GW_of (i := 298) (by decide +kernel) rfl, by decide, rfl, by decide +kernel, rfl⟩
theorem fi_X1_22 : FI RX1 22 1 4 (.int) false := ⟨RX1, TX1, 5, tyX1, okX1, GW_of (i := 299) (by decide +kernel) rfl, by decide, rfl, by decide +kernel, rfl⟩
theorem fi_X2_9 : FI RX2 9 2 3 (.array (.int)) true := ⟨RX2, TX2, 10, tyX2, okX2, GW_of (i := 563) (by decide +kernel) rfl, by decide, rfl, by decide +kernel, rfl⟩
theorem fi_X2_15 : FI RX2 15 2 4 (.array (.int)) true := ⟨RX2, TX2, 10, tyX2, okX2, GW_of (i := 564) (by decide +kernel) rfl, by decide, rfl, by decide +kernel, rfl⟩
theorem fi_X2_18 : FI RX2 18 2 5 (.array (.int)) true := ⟨RX2, TX2, 10, tyX2, okX2, GW_of (i := 565) (by decide +kernel) rfl, by decide, rfl, by decide +kernel, rfl⟩
theorem fi_X2_21 : FI RX2 21 2 8 (.int) false := ⟨RX2, TX2, 10, tyX2, okX2, GW_of (i := 569) (by decide +kernel) rfl, by decide, rfl, by decide +kernel, rfl⟩
theorem fi_X2_25 : FI RX2 25 2 0 (.boolean) true := ⟨RX2, TX2, 10, tyX2, okX2, GW_of (i := 560) (by decide +kernel) rfl, by decide, rfl, by decide +kernel, rfl⟩
theorem fi_X2_29 : FI RX2 29 2 1 (.object "PisteLine$Weapon") true := ⟨RX2, TX2, 10, tyX2, okX2, GW_of (i := 561) (by decide +kernel) rfl, by decide, rfl, by decide +kernel, rfl⟩
theorem fi_X2_33 : FI RX2 33 2 2 (.object "PisteLine$Weapon") true := ⟨RX2, TX2, 10, tyX2, okX2, GW_of (i := 562) (by decide +kernel) rfl, by decide, rfl, by decide +kernel, rfl⟩
theorem fi_X2_36 : FI RX2 36 2 6 (.int) false := ⟨RX2, TX2, 10, tyX2, okX2, GW_of (i := 566) (by decide +kernel) rfl, by decide, rfl, by decide +kernel, rfl⟩
theorem fi_X2_43 : FI RX2 43 2 7 (.boolean) false := ⟨RX2, TX2, 10, tyX2, okX2, GW_of (i := 568) (by decide +kernel) rfl, by decide, rfl, by decide +kernel, rfl⟩
theorem fi_X2_50 : FI RX2 50 2 9 (.int) false := ⟨RX2, TX2, 10, tyX2, okX2, GW_of (i := 570) (by decide +kernel) rfl, by decide, rfl, by decide +kernel, rfl⟩
theorem fi_X3_9 : FI RX3 9 3 0 (.int) false := ⟨RX3, TX3, 6, tyX3, okX3, GW_of (i := 80) (by decide +kernel) rfl, by decide, rfl, by decide +kernel, rfl⟩
theorem fi_X3_15 : FI RX3 15 3 1 (.object "PisteLine$Bout") false := ⟨RX3, TX3, 6, tyX3, okX3, GW_of (i := 82) (by decide +kernel) rfl, by decide, rfl, by decide +kernel, rfl⟩
theorem fi_X3_19 : FI RX3 19 3 2 (.object "PisteLine$Weapon") false := ⟨RX3, TX3, 6, tyX3, okX3, GW_of (i := 85) (by decide +kernel) rfl, by decide, rfl, by decide +kernel, rfl⟩
theorem fi_X3_23 : FI RX3 23 3 3 (.object "PisteLine$Weapon") false := ⟨RX3, TX3, 6, tyX3, okX3, GW_of (i := 87) (by decide +kernel) rfl, by decide, rfl, by decide +kernel, rfl⟩
theorem fi_X3_26 : FI RX3 26 3 4 (.object "PisteLine$Phrase") false := ⟨RX3, TX3, 6, tyX3, okX3, GW_of (i := 89) (by decide +kernel) rfl, by decide, rfl, by decide +kernel, rfl⟩
theorem fi_X3_30 : FI RX3 30 3 5 (.boolean) false := ⟨RX3, TX3, 6, tyX3, okX3, GW_of (i := 91) (by decide +kernel) rfl, by decide, rfl, by decide +kernel, rfl⟩
theorem fi_X3_38 : FI RX3 38 6 0 (.int) true := ⟨RX6, TX6, 4, tyX6, okX6, GW_of (i := 346) (by decide +kernel) rfl, by decide, rfl, by decide +kernel, rfl⟩
theorem fi_X4_9 : FI RX4 9 4 2 (.array (.int)) true := ⟨RX4, TX4, 5, tyX4, okX4, GW_of (i := 117) (by decide +kernel) rfl, by decide, rfl, by decide +kernel, rfl⟩
theorem fi_X4_15 : FI RX4 15 4 3 (.array (.int)) true := ⟨RX4, TX4, 5, tyX4, okX4, GW_of (i := 118) (by decide +kernel) rfl, by decide, rfl, by decide +kernel, rfl⟩
theorem fi_X4_20 : FI RX4 20 4 4 (.array (.object "PisteLine$Bout")) true := ⟨RX4, TX4, 5, tyX4, okX4, GW_of (i := 119) (by decide +kernel) rfl, by decide, rfl, by decide +kernel, rfl⟩
theorem fi_X4_24 : FI RX4 24 4 0 (.int) false := ⟨RX4, TX4, 5, tyX4, okX4, GW_of (i := 113) (by decide +kernel) rfl, by decide, rfl, by decide +kernel, rfl⟩
theorem fi_X4_49 : FI RX4 49 0 1 (.int) false := ⟨RX0, TX0, 8, tyX0, okX0, GW_of (i := 790) (by decide +kernel) rfl, by decide, rfl, by decide +kernel, rfl⟩
theorem fi_X4_52 : FI RX4 52 0 2 (.int) false := ⟨RX0, TX0, 8, tyX0, okX0, GW_of (i := 793) (by decide +kernel) rfl, by decide, rfl, by decide +kernel, rfl⟩
theorem fi_X4_67 : FI RX4 67 0 4 (.int) false := ⟨RX0, TX0, 8, tyX0, okX0, GW_of (i := 797) (by decide +kernel) rfl, by decide, rfl, by decide +kernel, rfl⟩
theorem fi_X4_70 : FI RX4 70 4 1 (.int) false := ⟨RX4, TX4, 5, tyX4, okX4, GW_of (i := 115) (by decide +kernel) rfl, by decide, rfl, by decide +kernel, rfl⟩
theorem fi_X4_76 : FI RX4 76 3 1 (.object "PisteLine$Bout") false := ⟨RX3, TX3, 6, tyX3, okX3, GW_of (i := 84) (by decide +kernel) rfl, by decide, rfl, by decide +kernel, rfl⟩
theorem fi_X5_9 : FI RX5 9 5 0 (.int) false := ⟨RX5, TX5, 3, tyX5, okX5, GW_of (i := 138) (by decide +kernel) rfl, by decide, rfl, by decide +kernel, rfl⟩
theorem fi_X5_15 : FI RX5 15 5 1 (.int) false := ⟨RX5, TX5, 3, tyX5, okX5, GW_of (i := 140) (by decide +kernel) rfl, by decide, rfl, by decide +kernel, rfl⟩
theorem fi_X5_18 : FI RX5 18 5 2 (.int) false := ⟨RX5, TX5, 3, tyX5, okX5, GW_of (i := 142) (by decide +kernel) rfl, by decide, rfl, by decide +kernel, rfl⟩
theorem fi_X6_9 : FI RX6 9 6 2 (.int) false := ⟨RX6, TX6, 4, tyX6, okX6, GW_of (i := 349) (by decide +kernel) rfl, by decide, rfl, by decide +kernel, rfl⟩
theorem fi_X6_15 : FI RX6 15 6 0 (.int) true := ⟨RX6, TX6, 4, tyX6, okX6, GW_of (i := 345) (by decide +kernel) rfl, by decide, rfl, by decide +kernel, rfl⟩
theorem fi_X6_18 : FI RX6 18 6 1 (.int) true := ⟨RX6, TX6, 4, tyX6, okX6, GW_of (i := 347) (by decide +kernel) rfl, by decide, rfl, by decide +kernel, rfl⟩
theorem fi_X6_21 : FI RX6 21 6 3 (.boolean) false := ⟨RX6, TX6, 4, tyX6, okX6, GW_of (i := 351) (by decide +kernel) rfl, by decide, rfl, by decide +kernel, rfl⟩
theorem fi_X8_7 : FI RX8 7 8 2 (.array (.int)) true := ⟨RX8, TX8, 34, tyX8, okX8, GW_of (i := 922) (by decide +kernel) rfl, by decide, rfl, by decide +kernel, rfl⟩
theorem fi_X8_13 : FI RX8 13 8 3 (.array (.int)) true := ⟨RX8, TX8, 34, tyX8, okX8, GW_of (i := 923) (by decide +kernel) rfl, by decide, rfl, by decide +kernel, rfl⟩
theorem fi_X8_16 : FI RX8 16 8 4 (.array (.boolean)) true := ⟨RX8, TX8, 34, tyX8, okX8, GW_of (i := 924) (by decide +kernel) rfl, by decide, rfl, by decide +kernel, rfl⟩
theorem fi_X8_20 : FI RX8 20 8 6 (.array (.int)) true := ⟨RX8, TX8, 34, tyX8, okX8, GW_of (i := 926) (by decide +kernel) rfl, by decide, rfl, by decide +kernel, rfl⟩
theorem fi_X8_23 : FI RX8 23 8 7 (.array (.int)) true := ⟨RX8, TX8, 34, tyX8, okX8, GW_of (i := 927) (by decide +kernel) rfl, by decide, rfl, by decide +kernel, rfl⟩
theorem fi_X8_26 : FI RX8 26 8 10 (.array (.int)) true := ⟨RX8, TX8, 34, tyX8, okX8, GW_of (i := 930) (by decide +kernel) rfl, by decide, rfl, by decide +kernel, rfl⟩
theorem fi_X8_29 : FI RX8 29 8 11 (.array (.int)) true := ⟨RX8, TX8, 34, tyX8, okX8, GW_of (i := 931) (by decide +kernel) rfl, by decide, rfl, by decide +kernel, rfl⟩
theorem fi_X8_32 : FI RX8 32 8 12 (.array (.int)) true := ⟨RX8, TX8, 34, tyX8, okX8, GW_of (i := 932) (by decide +kernel) rfl, by decide, rfl, by decide +kernel, rfl⟩
theorem fi_X8_35 : FI RX8 35 8 13 (.array (.int)) true := ⟨RX8, TX8, 34, tyX8, okX8, GW_of (i := 933) (by decide +kernel) rfl, by decide, rfl, by decide +kernel, rfl⟩
theorem fi_X8_38 : FI RX8 38 8 14 (.array (.int)) true := ⟨RX8, TX8, 34, tyX8, okX8, GW_of (i := 934) (by decide +kernel) rfl, by decide, rfl, by decide +kernel, rfl⟩
theorem fi_X8_41 : FI RX8 41 8 15 (.array (.int)) true := ⟨RX8, TX8, 34, tyX8, okX8, GW_of (i := 935) (by decide +kernel) rfl, by decide, rfl, by decide +kernel, rfl⟩
theorem fi_X8_44 : FI RX8 44 8 16 (.array (.int)) true := ⟨RX8, TX8, 34, tyX8, okX8, GW_of (i := 936) (by decide +kernel) rfl, by decide, rfl, by decide +kernel, rfl⟩
theorem fi_X8_47 : FI RX8 47 8 17 (.int) false := ⟨RX8, TX8, 34, tyX8, okX8, GW_of (i := 937) (by decide +kernel) rfl, by decide, rfl, by decide +kernel, rfl⟩
theorem fi_X8_51 : FI RX8 51 8 18 (.array (.int)) true := ⟨RX8, TX8, 34, tyX8, okX8, GW_of (i := 938) (by decide +kernel) rfl, by decide, rfl, by decide +kernel, rfl⟩
theorem fi_X8_54 : FI RX8 54 8 22 (.array (.int)) true := ⟨RX8, TX8, 34, tyX8, okX8, GW_of (i := 942) (by decide +kernel) rfl, by decide, rfl, by decide +kernel, rfl⟩
theorem fi_X8_57 : FI RX8 57 8 23 (.array (.boolean)) true := ⟨RX8, TX8, 34, tyX8, okX8, GW_of (i := 943) (by decide +kernel) rfl, by decide, rfl, by decide +kernel, rfl⟩
theorem fi_X8_60 : FI RX8 60 8 28 (.array (.int)) true := ⟨RX8, TX8, 34, tyX8, okX8, GW_of (i := 948) (by decide +kernel) rfl, by decide, rfl, by decide +kernel, rfl⟩
theorem fi_X8_63 : FI RX8 63 8 29 (.array (.int)) true := ⟨RX8, TX8, 34, tyX8, okX8, GW_of (i := 949) (by decide +kernel) rfl, by decide, rfl, by decide +kernel, rfl⟩
theorem fi_X8_66 : FI RX8 66 8 30 (.array (.int)) true := ⟨RX8, TX8, 34, tyX8, okX8, GW_of (i := 950) (by decide +kernel) rfl, by decide, rfl, by decide +kernel, rfl⟩
theorem fi_X8_69 : FI RX8 69 8 31 (.array (.int)) true := ⟨RX8, TX8, 34, tyX8, okX8, GW_of (i := 951) (by decide +kernel) rfl, by decide, rfl, by decide +kernel, rfl⟩
theorem fi_X8_72 : FI RX8 72 8 32 (.array (.int)) true := ⟨RX8, TX8, 34, tyX8, okX8, GW_of (i := 952) (by decide +kernel) rfl, by decide, rfl, by decide +kernel, rfl⟩
theorem fi_X8_75 : FI RX8 75 8 0 (.boolean) true := ⟨RX8, TX8, 34, tyX8, okX8, GW_of (i := 920) (by decide +kernel) rfl, by decide, rfl, by decide +kernel, rfl⟩
theorem fi_X8_79 : FI RX8 79 8 33 (.int) false := ⟨RX8, TX8, 34, tyX8, okX8, GW_of (i := 953) (by decide +kernel) rfl, by decide, rfl, by decide +kernel, rfl⟩
theorem fi_X8_82 : FI RX8 82 8 1 (.int) false := ⟨RX8, TX8, 34, tyX8, okX8, GW_of (i := 921) (by decide +kernel) rfl, by decide, rfl, by decide +kernel, rfl⟩
theorem fi_X8_89 : FI RX8 89 8 5 (.int) false := ⟨RX8, TX8, 34, tyX8, okX8, GW_of (i := 925) (by decide +kernel) rfl, by decide, rfl, by decide +kernel, rfl⟩
theorem fi_X8_92 : FI RX8 92 8 9 (.int) false := ⟨RX8, TX8, 34, tyX8, okX8, GW_of (i := 929) (by decide +kernel) rfl, by decide, rfl, by decide +kernel, rfl⟩
theorem fi_X8_95 : FI RX8 95 8 21 (.int) false := ⟨RX8, TX8, 34, tyX8, okX8, GW_of (i := 941) (by decide +kernel) rfl, by decide, rfl, by decide +kernel, rfl⟩
theorem fi_X8_98 : FI RX8 98 8 8 (.int) false := ⟨RX8, TX8, 34, tyX8, okX8, GW_of (i := 928) (by decide +kernel) rfl, by decide, rfl, by decide +kernel, rfl⟩
theorem fi_X8_112 : FI RX8 112 8 19 (.boolean) false := ⟨RX8, TX8, 34, tyX8, okX8, GW_of (i := 939) (by decide +kernel) rfl, by decide, rfl, by decide +kernel, rfl⟩
theorem fi_X8_129 : FI RX8 129 8 25 (.int) false := ⟨RX8, TX8, 34, tyX8, okX8, GW_of (i := 945) (by decide +kernel) rfl, by decide, rfl, by decide +kernel, rfl⟩
theorem fi_X8_132 : FI RX8 132 8 26 (.int) false := ⟨RX8, TX8, 34, tyX8, okX8, GW_of (i := 946) (by decide +kernel) rfl, by decide, rfl, by decide +kernel, rfl⟩
theorem fi_X8_135 : FI RX8 135 8 27 (.int) false := ⟨RX8, TX8, 34, tyX8, okX8, GW_of (i := 947) (by decide +kernel) rfl, by decide, rfl, by decide +kernel, rfl⟩
theorem fi_X8_142 : FI RX8 142 8 24 (.int) false := ⟨RX8, TX8, 34, tyX8, okX8, GW_of (i := 944) (by decide +kernel) rfl, by decide, rfl, by decide +kernel, rfl⟩
theorem fi_X8_161 : FI RX8 161 8 20 (.boolean) false := ⟨RX8, TX8, 34, tyX8, okX8, GW_of (i := 940) (by decide +kernel) rfl, by decide, rfl, by decide +kernel, rfl⟩
theorem ni_X7_9 : NI RX7 9 1 [vI 0, vI 0, vI 0, vI 0, vI 0] 5 := ⟨RX1, TX1, tyX1, okX1, GW_of (i := 68) (by decide +kernel) rfl, GW_of (i := 289) (by decide +kernel) rfl, GW_of (i := 53) (by decide +kernel) rfl, (fun ψ => lt_s (lt_s (lt_s (lt_s (lt_s (lt_0) rfl) rfl) rfl) rfl) rfl), by decide +kernel⟩
theorem cl_X7_9 : Cond.classLink RX7 9 RX1 ∈ GW := GW_of (i := 68) (by decide +kernel) rfl
theorem ni_X7_15 : NI RX7 15 6 [vI 0, vI 0, vI 0, vI 0] 4 := ⟨RX6, TX6, tyX6, okX6, GW_of (i := 70) (by decide +kernel) rfl, GW_of (i := 340) (by decide +kernel) rfl, GW_of (i := 55) (by decide +kernel) rfl, (fun ψ => lt_s (lt_s (lt_s (lt_s (lt_0) rfl) rfl) rfl) rfl), by decide +kernel⟩
theorem cl_X7_15 : Cond.classLink RX7 15 RX6 ∈ GW := GW_of (i := 70) (by decide +kernel) rfl
theorem ni_X7_21 : NI RX7 21 0 [vI 0, vI 0, vI 0, vR none, vI 0, vI 0, vI 0, vR none] 8 := ⟨RX0, TX0, tyX0, okX0, GW_of (i := 72) (by decide +kernel) rfl, GW_of (i := 777) (by decide +kernel) rfl, GW_of (i := 58) (by decide +kernel) rfl, (fun ψ => lt_s (lt_s (lt_s (lt_s (lt_s (lt_s (lt_s (lt_s (lt_0) rfl) rfl) rfl) rfl) rfl) rfl) rfl) rfl), by decide +kernel⟩
theorem cl_X7_21 : Cond.classLink RX7 21 RX0 ∈ GW := GW_of (i := 72) (by decide +kernel) rfl
theorem ni_X7_27 : NI RX7 27 3 [vI 0, vR none, vR none, vR none, vR none, vI 0] 6 := ⟨RX3, TX3, tyX3, okX3, GW_of (i := 74) (by decide +kernel) rfl, GW_of (i := 75) (by decide +kernel) rfl, GW_of (i := 45) (by decide +kernel) rfl, (fun ψ => lt_s (lt_s (lt_s (lt_s (lt_s (lt_s (lt_0) rfl) rfl) rfl) rfl) rfl) rfl), by decide +kernel⟩
theorem cl_X7_27 : Cond.classLink RX7 27 RX3 ∈ GW := GW_of (i := 74) (by decide +kernel) rfl
theorem ni_X7_34 : NI RX7 34 4 [vI 0, vI 0, vR none, vR none, vR none] 5 := ⟨RX4, TX4, tyX4, okX4, GW_of (i := 106) (by decide +kernel) rfl, GW_of (i := 107) (by decide +kernel) rfl, GW_of (i := 46) (by decide +kernel) rfl, (fun ψ => lt_s (lt_s (lt_s (lt_s (lt_s (lt_0) rfl) rfl) rfl) rfl) rfl), by decide +kernel⟩
theorem cl_X7_34 : Cond.classLink RX7 34 RX4 ∈ GW := GW_of (i := 106) (by decide +kernel) rfl
theorem ni_X7_41 : NI RX7 41 5 [vI 0, vI 0, vI 0] 3 := ⟨RX5, TX5, tyX5, okX5, GW_of (i := 132) (by decide +kernel) rfl, GW_of (i := 133) (by decide +kernel) rfl, GW_of (i := 47) (by decide +kernel) rfl, (fun ψ => lt_s (lt_s (lt_s (lt_0) rfl) rfl) rfl), by decide +kernel⟩
theorem cl_X7_41 : Cond.classLink RX7 41 RX5 ∈ GW := GW_of (i := 132) (by decide +kernel) rfl
theorem cl_X7_60 : Cond.classLink RX7 60 "java/lang/IllegalStateException" ∈ GW := GW_of (i := 221) (by decide +kernel) rfl
theorem cl_X7_74 : Cond.classLink RX7 74 "java/lang/IndexOutOfBoundsException" ∈ GW := GW_of (i := 323) (by decide +kernel) rfl
theorem cl_X7_93 : Cond.classLink RX7 93 "java/lang/IllegalArgumentException" ∈ GW := GW_of (i := 375) (by decide +kernel) rfl
theorem ni_X7_174 : NI RX7 174 2 [vI 0, vR none, vR none, vR none, vR none, vR none, vI 0, vI 0, vI 0, vI 0] 10 := ⟨RX2, TX2, tyX2, okX2, GW_of (i := 554) (by decide +kernel) rfl, GW_of (i := 555) (by decide +kernel) rfl, GW_of (i := 57) (by decide +kernel) rfl, (fun ψ => lt_s (lt_s (lt_s (lt_s (lt_s (lt_s (lt_s (lt_s (lt_s (lt_s (lt_0) rfl) rfl) rfl) rfl) rfl) rfl) rfl) rfl) rfl) rfl), by decide +kernel⟩
theorem cl_X7_174 : Cond.classLink RX7 174 RX2 ∈ GW := GW_of (i := 554) (by decide +kernel) rfl
theorem ni_X0_9 : NI RX0 9 2 [vI 0, vR none, vR none, vR none, vR none, vR none, vI 0, vI 0, vI 0, vI 0] 10 := ⟨RX2, TX2, tyX2, okX2, GW_of (i := 782) (by decide +kernel) rfl, GW_of (i := 555) (by decide +kernel) rfl, GW_of (i := 57) (by decide +kernel) rfl, (fun ψ => lt_s (lt_s (lt_s (lt_s (lt_s (lt_s (lt_s (lt_s (lt_s (lt_s (lt_0) rfl) rfl) rfl) rfl) rfl) rfl) rfl) rfl) rfl) rfl), by decide +kernel⟩
theorem cl_X0_9 : Cond.classLink RX0 9 RX2 ∈ GW := GW_of (i := 782) (by decide +kernel) rfl
theorem ni_X0_24 : NI RX0 24 5 [vI 0, vI 0, vI 0] 3 := ⟨RX5, TX5, tyX5, okX5, GW_of (i := 784) (by decide +kernel) rfl, GW_of (i := 133) (by decide +kernel) rfl, GW_of (i := 47) (by decide +kernel) rfl, (fun ψ => lt_s (lt_s (lt_s (lt_0) rfl) rfl) rfl), by decide +kernel⟩
theorem cl_X0_24 : Cond.classLink RX0 24 RX5 ∈ GW := GW_of (i := 784) (by decide +kernel) rfl
theorem ni_X4_18 : NI RX4 18 0 [vI 0, vI 0, vI 0, vR none, vI 0, vI 0, vI 0, vR none] 8 := ⟨RX0, TX0, tyX0, okX0, GW_of (i := 112) (by decide +kernel) rfl, GW_of (i := 777) (by decide +kernel) rfl, GW_of (i := 58) (by decide +kernel) rfl, (fun ψ => lt_s (lt_s (lt_s (lt_s (lt_s (lt_s (lt_s (lt_s (lt_0) rfl) rfl) rfl) rfl) rfl) rfl) rfl) rfl), by decide +kernel⟩
theorem cl_X4_18 : Cond.classLink RX4 18 RX0 ∈ GW := GW_of (i := 112) (by decide +kernel) rfl
theorem ni_L_8 : NI RL 8 7 [vI 0, vR none, vI 0, vR none, vI 0, vR none, vI 0, vR none, vR none, vR none] 10 := ⟨RX7, TX7, tyX7, okX7, GW_of (i := 60) (by decide +kernel) rfl, GW_of (i := 61) (by decide +kernel) rfl, GW_of (i := 44) (by decide +kernel) rfl, (fun ψ => lt_s (lt_s (lt_s (lt_s (lt_s (lt_s (lt_s (lt_s (lt_s (lt_s (lt_0) rfl) rfl) rfl) rfl) rfl) rfl) rfl) rfl) rfl) rfl), by decide +kernel⟩
theorem cl_L_8 : Cond.classLink RL 8 RX7 ∈ GW := GW_of (i := 60) (by decide +kernel) rfl
theorem cl_L_13 : Cond.classLink RL 13 "java/lang/IllegalStateException" ∈ GW := GW_of (i := 212) (by decide +kernel) rfl
theorem cl_L_19 : Cond.classLink RL 19 "java/lang/IndexOutOfBoundsException" ∈ GW := GW_of (i := 314) (by decide +kernel) rfl
theorem cl_L_25 : Cond.classLink RL 25 "java/lang/IllegalArgumentException" ∈ GW := GW_of (i := 365) (by decide +kernel) rfl
theorem ni_L_108 : NI RL 108 8 [vI 0, vI 0, vR none, vR none, vR none, vI 0, vR none, vR none, vI 0, vI 0, vR none, vR none, vR none, vR none, vR none, vR none, vR none, vI 0, vR none, vI 0, vI 0, vI 0, vR none, vR none, vI 0, vI 0, vI 0, vI 0, vR none, vR none, vR none, vR none, vR none, vI 0] 34 := ⟨RX8, TX8, tyX8, okX8, GW_of (i := 914) (by decide +kernel) rfl, GW_of (i := 915) (by decide +kernel) rfl, GW_of (i := 48) (by decide +kernel) rfl, (fun ψ => lt_s (lt_s (lt_s (lt_s (lt_s (lt_s (lt_s (lt_s (lt_s (lt_s (lt_s (lt_s (lt_s (lt_s (lt_s (lt_s (lt_s (lt_s (lt_s (lt_s (lt_s (lt_s (lt_s (lt_s (lt_s (lt_s (lt_s (lt_s (lt_s (lt_s (lt_s (lt_s (lt_s (lt_s (lt_0) rfl) rfl) rfl) rfl) rfl) rfl) rfl) rfl) rfl) rfl) rfl) rfl) rfl) rfl) rfl) rfl) rfl) rfl) rfl) rfl) rfl) rfl) rfl) rfl) rfl) rfl) rfl) rfl) rfl) rfl) rfl) rfl) rfl) rfl), by decide +kernel⟩
theorem cl_L_108 : Cond.classLink RL 108 RX8 ∈ GW := GW_of (i := 914) (by decide +kernel) rfl
end
section
/-! METHODS AND CALLS: by program (gentab.py) -/
def mL_allez : MI := (yL_allez, cL_allez, 3, (some FieldType.int), [(0, 8, 11, 13)], { frames := 7, cells := 4, slots := 34, locals := 105 })
def mL_appeal : MI := (yL_appeal, cL_appeal, 5, (some FieldType.int), [(0, 10, 13, 19), (0, 10, 17, 25), (0, 10, 21, 13)], { frames := 7, cells := 1, slots := 6, locals := 134 })
def mL_appeals : MI := (yL_appeals, cL_appeals, 5, (some FieldType.int), [(0, 10, 13, 19)], { frames := 7, cells := 1, slots := 6, locals := 105 })
def mL_begin : MI := (yL_begin, cL_begin, 6, (some FieldType.int), [(0, 12, 15, 19), (0, 12, 19, 13)], { frames := 7, cells := 1, slots := 6, locals := 108 })
def mL_cell : MI := (yL_cell, cL_cell, 2, (some FieldType.int), [], { frames := 0, cells := 0, slots := 0, locals := 0 })
theorem kiL_cell : KI mL_cell 2 := ⟨rfl, GW_of (i := 208) (by decide +kernel) rfl, GW_of (i := 43) (by decide +kernel) rfl, ⟨by decide +kernel, by decide +kernel⟩, by decide +kernel⟩
def mL_change : MI := (yL_change, cL_change, 5, (some FieldType.int), [(0, 10, 13, 19), (0, 10, 17, 13)], { frames := 7, cells := 1, slots := 6, locals := 107 })
def mL_contact : MI := (yL_contact, cL_contact, 6, (some FieldType.int), [(0, 12, 15, 19), (0, 12, 19, 25), (0, 12, 23, 13)], { frames := 7, cells := 1, slots := 6, locals := 106 })
def mL_drawPools : MI := (yL_drawPools, cL_drawPools, 4, (some FieldType.int), [(0, 9, 12, 25), (0, 9, 15, 13)], { frames := 7, cells := 792, slots := 6072, locals := 104 })
def mL_drawTableau : MI := (yL_drawTableau, cL_drawTableau, 3, (some FieldType.int), [(0, 8, 11, 13)], { frames := 7, cells := 45, slots := 345, locals := 129 })
def mL_fencer : MI := (yL_fencer, cL_fencer, 3, (some FieldType.int), [(0, 8, 11, 13)], { frames := 7, cells := 1, slots := 6, locals := 103 })
def mL_fencerOf : MI := (yL_fencerOf, cL_fencerOf, 5, (some FieldType.int), [(0, 10, 13, 19)], { frames := 7, cells := 1, slots := 6, locals := 105 })
def mL_halt : MI := (yL_halt, cL_halt, 3, (some FieldType.int), [(0, 8, 11, 13)], { frames := 7, cells := 1, slots := 6, locals := 130 })
def mL_index : MI := (yL_index, cL_index, 4, (some FieldType.int), [(0, 9, 12, 19)], { frames := 7, cells := 1, slots := 6, locals := 107 })
def mL_law : MI := (yL_law, cL_law, 7, ret, [], room_1)
def mL_mark : MI := (yL_mark, cL_mark, 4, (some FieldType.int), [(0, 9, 12, 19)], { frames := 7, cells := 1, slots := 6, locals := 104 })
def mL_nodeWinner : MI := (yL_nodeWinner, cL_nodeWinner, 4, (some FieldType.int), [(0, 9, 12, 19)], { frames := 7, cells := 1, slots := 6, locals := 103 })
def mL_owner : MI := (yL_owner, cL_owner, 4, (some FieldType.int), [(0, 9, 12, 19)], { frames := 7, cells := 1, slots := 6, locals := 104 })
def mL_phrases : MI := (yL_phrases, cL_phrases, 4, (some FieldType.int), [(0, 9, 12, 19)], { frames := 7, cells := 1, slots := 6, locals := 104 })
def mL_rankedAt : MI := (yL_rankedAt, cL_rankedAt, 4, (some FieldType.int), [(0, 9, 12, 19)], { frames := 7, cells := 1, slots := 6, locals := 112 })
def mL_right : MI := (yL_right, cL_right, 5, (some FieldType.int), [(0, 10, 13, 25), (0, 10, 17, 13)], { frames := 7, cells := 1, slots := 6, locals := 105 })
def mL_score : MI := (yL_score, cL_score, 5, (some FieldType.int), [(0, 10, 13, 19)], { frames := 7, cells := 1, slots := 6, locals := 105 })
def mL_scoreAnew : MI := (yL_scoreAnew, cL_scoreAnew, 5, (some FieldType.int), [(0, 10, 13, 19)], { frames := 7, cells := 1, slots := 6, locals := 114 })
def mL_test : MI := (yL_test, cL_test, 6, (some FieldType.int), [(0, 19, 22, 19), (0, 19, 26, 25), (0, 19, 30, 13)], { frames := 7, cells := 1, slots := 6, locals := 157 })
def mL_touches : MI := (yL_touches, cL_touches, 5, (some FieldType.int), [(0, 10, 13, 19)], { frames := 7, cells := 1, slots := 6, locals := 106 })
def mL_weapon : MI := (yL_weapon, cL_weapon, 4, (some FieldType.int), [(0, 9, 12, 19), (0, 9, 15, 13)], { frames := 7, cells := 1, slots := 6, locals := 104 })
def mL_weaponOf : MI := (yL_weaponOf, cL_weaponOf, 4, (some FieldType.int), [(0, 9, 12, 19)], { frames := 7, cells := 1, slots := 6, locals := 103 })
def mL_winner : MI := (yL_winner, cL_winner, 4, (some FieldType.int), [(0, 9, 12, 19)], { frames := 7, cells := 1, slots := 6, locals := 104 })
def mL_won : MI := (yL_won, cL_won, 4, (some FieldType.int), [(0, 9, 12, 19)], { frames := 7, cells := 1, slots := 6, locals := 107 })
def mX0_appealsLeft : MI := (yX0_appealsLeft, cX0_appealsLeft, 2, (some FieldType.int), [], { frames := 0, cells := 0, slots := 0, locals := 0 })
theorem kiX0_appealsLeft : KI mX0_appealsLeft 1 := ⟨rfl, GW_of (i := 683) (by decide +kernel) rfl, GW_of (i := 58) (by decide +kernel) rfl, ⟨by decide +kernel, by decide +kernel⟩, by decide +kernel⟩
def mX0_canBeFenced : MI := (yX0_canBeFenced, cX0_canBeFenced, 1, (some FieldType.boolean), [], { frames := 2, cells := 0, slots := 0, locals := 40 })
theorem kiX0_canBeFenced : KI mX0_canBeFenced 0 := ⟨rfl, GW_of (i := 516) (by decide +kernel) rfl, GW_of (i := 58) (by decide +kernel) rfl, ⟨by decide +kernel, by decide +kernel⟩, by decide +kernel⟩
def mX0_countAnew : MI := (yX0_countAnew, cX0_countAnew, 4, none, [], { frames := 3, cells := 0, slots := 0, locals := 68 })
theorem kiX0_countAnew : KI mX0_countAnew 1 := ⟨rfl, GW_of (i := 730) (by decide +kernel) rfl, GW_of (i := 58) (by decide +kernel) rfl, ⟨by decide +kernel, by decide +kernel⟩, by decide +kernel⟩
def mX0_fencerAt : MI := (yX0_fencerAt, cX0_fencerAt, 2, (some FieldType.int), [], { frames := 0, cells := 0, slots := 0, locals := 0 })
theorem kiX0_fencerAt : KI mX0_fencerAt 1 := ⟨rfl, GW_of (i := 469) (by decide +kernel) rfl, GW_of (i := 58) (by decide +kernel) rfl, ⟨by decide +kernel, by decide +kernel⟩, by decide +kernel⟩
def mX0_forget : MI := (yX0_forget, cX0_forget, 2, none, [], { frames := 1, cells := 0, slots := 0, locals := 21 })
theorem kiX0_forget : KI mX0_forget 0 := ⟨rfl, GW_of (i := 477) (by decide +kernel) rfl, GW_of (i := 58) (by decide +kernel) rfl, ⟨by decide +kernel, by decide +kernel⟩, by decide +kernel⟩
def mX0_init : MI := (yX0_init, cX0_init, 4, none, [], { frames := 2, cells := 2, slots := 15, locals := 32 })
theorem kiX0_init : KI mX0_init 3 := ⟨rfl, GW_of (i := 780) (by decide +kernel) rfl, GW_of (i := 58) (by decide +kernel) rfl, ⟨by decide +kernel, by decide +kernel⟩, by decide +kernel⟩
def mX0_keep : MI := (yX0_keep, cX0_keep, 2, none, [], { frames := 4, cells := 0, slots := 0, locals := 87 })
theorem kiX0_keep : KI mX0_keep 1 := ⟨rfl, GW_of (i := 667) (by decide +kernel) rfl, GW_of (i := 58) (by decide +kernel) rfl, ⟨by decide +kernel, by decide +kernel⟩, by decide +kernel⟩
def mX0_phraseAt : MI := (yX0_phraseAt, cX0_phraseAt, 2, (some (FieldType.object "PisteLine$Phrase")), [], { frames := 0, cells := 0, slots := 0, locals := 0 })
theorem kiX0_phraseAt : KI mX0_phraseAt 1 := ⟨rfl, GW_of (i := 411) (by decide +kernel) rfl, GW_of (i := 58) (by decide +kernel) rfl, ⟨by decide +kernel, by decide +kernel⟩, by decide +kernel⟩
def mX0_recount : MI := (yX0_recount, cX0_recount, 3, none, [], { frames := 3, cells := 0, slots := 0, locals := 65 })
theorem kiX0_recount : KI mX0_recount 0 := ⟨rfl, GW_of (i := 403) (by decide +kernel) rfl, GW_of (i := 58) (by decide +kernel) rfl, ⟨by decide +kernel, by decide +kernel⟩, by decide +kernel⟩
def mX0_touchesLeft : MI := (yX0_touchesLeft, cX0_touchesLeft, 2, (some FieldType.int), [], { frames := 2, cells := 0, slots := 0, locals := 44 })
theorem kiX0_touchesLeft : KI mX0_touchesLeft 1 := ⟨rfl, GW_of (i := 415) (by decide +kernel) rfl, GW_of (i := 58) (by decide +kernel) rfl, ⟨by decide +kernel, by decide +kernel⟩, by decide +kernel⟩
def mX0_useAppeal : MI := (yX0_useAppeal, cX0_useAppeal, 2, none, [], { frames := 0, cells := 0, slots := 0, locals := 0 })
theorem kiX0_useAppeal : KI mX0_useAppeal 1 := ⟨rfl, GW_of (i := 693) (by decide +kernel) rfl, GW_of (i := 58) (by decide +kernel) rfl, ⟨by decide +kernel, by decide +kernel⟩, by decide +kernel⟩
def mX0_winningFencer : MI := (yX0_winningFencer, cX0_winningFencer, 2, (some FieldType.int), [], { frames := 2, cells := 0, slots := 0, locals := 40 })
theorem kiX0_winningFencer : KI mX0_winningFencer 0 := ⟨rfl, GW_of (i := 460) (by decide +kernel) rfl, GW_of (i := 58) (by decide +kernel) rfl, ⟨by decide +kernel, by decide +kernel⟩, by decide +kernel⟩
def mX0_winningSide : MI := (yX0_winningSide, cX0_winningSide, 1, (some FieldType.int), [], { frames := 1, cells := 0, slots := 0, locals := 20 })
theorem kiX0_winningSide : KI mX0_winningSide 0 := ⟨rfl, GW_of (i := 464) (by decide +kernel) rfl, GW_of (i := 58) (by decide +kernel) rfl, ⟨by decide +kernel, by decide +kernel⟩, by decide +kernel⟩
def mX1_add : MI := (yX1_add, cX1_add, 4, none, [], { frames := 0, cells := 0, slots := 0, locals := 0 })
theorem kiX1_add : KI mX1_add 3 := ⟨rfl, GW_of (i := 842) (by decide +kernel) rfl, GW_of (i := 53) (by decide +kernel) rfl, ⟨by decide +kernel, by decide +kernel⟩, by decide +kernel⟩
def mX1_clear : MI := (yX1_clear, cX1_clear, 1, none, [], { frames := 0, cells := 0, slots := 0, locals := 0 })
theorem kiX1_clear : KI mX1_clear 0 := ⟨rfl, GW_of (i := 833) (by decide +kernel) rfl, GW_of (i := 53) (by decide +kernel) rfl, ⟨by decide +kernel, by decide +kernel⟩, by decide +kernel⟩
def mX1_difference : MI := (yX1_difference, cX1_difference, 1, (some FieldType.int), [], { frames := 0, cells := 0, slots := 0, locals := 0 })
theorem kiX1_difference : KI mX1_difference 0 := ⟨rfl, GW_of (i := 853) (by decide +kernel) rfl, GW_of (i := 53) (by decide +kernel) rfl, ⟨by decide +kernel, by decide +kernel⟩, by decide +kernel⟩
def mX1_init : MI := (yX1_init, cX1_init, 2, none, [], { frames := 1, cells := 0, slots := 0, locals := 12 })
theorem kiX1_init : KI mX1_init 1 := ⟨rfl, GW_of (i := 292) (by decide +kernel) rfl, GW_of (i := 53) (by decide +kernel) rfl, ⟨by decide +kernel, by decide +kernel⟩, by decide +kernel⟩
def mX1_isAheadOf : MI := (yX1_isAheadOf, cX1_isAheadOf, 4, (some FieldType.boolean), [], { frames := 1, cells := 0, slots := 0, locals := 21 })
theorem kiX1_isAheadOf : KI mX1_isAheadOf 1 := ⟨rfl, GW_of (i := 873) (by decide +kernel) rfl, GW_of (i := 53) (by decide +kernel) rfl, ⟨by decide +kernel, by decide +kernel⟩, by decide +kernel⟩
def mX2_firstLight : MI := (yX2_firstLight, cX2_firstLight, 2, (some FieldType.int), [], { frames := 1, cells := 0, slots := 0, locals := 21 })
theorem kiX2_firstLight : KI mX2_firstLight 0 := ⟨rfl, GW_of (i := 647) (by decide +kernel) rfl, GW_of (i := 57) (by decide +kernel) rfl, ⟨by decide +kernel, by decide +kernel⟩, by decide +kernel⟩
def mX2_hear : MI := (yX2_hear, cX2_hear, 4, none, [], { frames := 1, cells := 0, slots := 0, locals := 20 })
theorem kiX2_hear : KI mX2_hear 3 := ⟨rfl, GW_of (i := 619) (by decide +kernel) rfl, GW_of (i := 57) (by decide +kernel) rfl, ⟨by decide +kernel, by decide +kernel⟩, by decide +kernel⟩
def mX2_init : MI := (yX2_init, cX2_init, 4, none, [], { frames := 1, cells := 3, slots := 24, locals := 12 })
theorem kiX2_init : KI mX2_init 3 := ⟨rfl, GW_of (i := 558) (by decide +kernel) rfl, GW_of (i := 57) (by decide +kernel) rfl, ⟨by decide +kernel, by decide +kernel⟩, by decide +kernel⟩
def mX2_isALight : MI := (yX2_isALight, cX2_isALight, 2, (some FieldType.boolean), [], { frames := 0, cells := 0, slots := 0, locals := 0 })
theorem kiX2_isALight : KI mX2_isALight 1 := ⟨rfl, GW_of (i := 651) (by decide +kernel) rfl, GW_of (i := 57) (by decide +kernel) rfl, ⟨by decide +kernel, by decide +kernel⟩, by decide +kernel⟩
def mX2_isFull : MI := (yX2_isFull, cX2_isFull, 1, (some FieldType.boolean), [], { frames := 0, cells := 0, slots := 0, locals := 0 })
theorem kiX2_isFull : KI mX2_isFull 0 := ⟨rfl, GW_of (i := 614) (by decide +kernel) rfl, GW_of (i := 57) (by decide +kernel) rfl, ⟨by decide +kernel, by decide +kernel⟩, by decide +kernel⟩
def mX2_judge : MI := (yX2_judge, cX2_judge, 4, (some FieldType.int), [], { frames := 2, cells := 0, slots := 0, locals := 45 })
theorem kiX2_judge : KI mX2_judge 0 := ⟨rfl, GW_of (i := 643) (by decide +kernel) rfl, GW_of (i := 57) (by decide +kernel) rfl, ⟨by decide +kernel, by decide +kernel⟩, by decide +kernel⟩
def mX2_latestTime : MI := (yX2_latestTime, cX2_latestTime, 1, (some FieldType.int), [], { frames := 0, cells := 0, slots := 0, locals := 0 })
theorem kiX2_latestTime : KI mX2_latestTime 0 := ⟨rfl, GW_of (i := 609) (by decide +kernel) rfl, GW_of (i := 57) (by decide +kernel) rfl, ⟨by decide +kernel, by decide +kernel⟩, by decide +kernel⟩
def mX2_otherLight : MI := (yX2_otherLight, cX2_otherLight, 5, (some FieldType.int), [], { frames := 1, cells := 0, slots := 0, locals := 21 })
theorem kiX2_otherLight : KI mX2_otherLight 1 := ⟨rfl, GW_of (i := 655) (by decide +kernel) rfl, GW_of (i := 57) (by decide +kernel) rfl, ⟨by decide +kernel, by decide +kernel⟩, by decide +kernel⟩
def mX2_rightAt : MI := (yX2_rightAt, cX2_rightAt, 4, (some FieldType.int), [], { frames := 0, cells := 0, slots := 0, locals := 0 })
theorem kiX2_rightAt : KI mX2_rightAt 1 := ⟨rfl, GW_of (i := 663) (by decide +kernel) rfl, GW_of (i := 57) (by decide +kernel) rfl, ⟨by decide +kernel, by decide +kernel⟩, by decide +kernel⟩
def mX2_tellRight : MI := (yX2_tellRight, cX2_tellRight, 2, none, [], { frames := 3, cells := 0, slots := 0, locals := 68 })
theorem kiX2_tellRight : KI mX2_tellRight 1 := ⟨rfl, GW_of (i := 688) (by decide +kernel) rfl, GW_of (i := 57) (by decide +kernel) rfl, ⟨by decide +kernel, by decide +kernel⟩, by decide +kernel⟩
def mX2_touchOf : MI := (yX2_touchOf, cX2_touchOf, 2, (some FieldType.int), [], { frames := 0, cells := 0, slots := 0, locals := 0 })
theorem kiX2_touchOf : KI mX2_touchOf 1 := ⟨rfl, GW_of (i := 659) (by decide +kernel) rfl, GW_of (i := 57) (by decide +kernel) rfl, ⟨by decide +kernel, by decide +kernel⟩, by decide +kernel⟩
def mX2_withoutStruck : MI := (yX2_withoutStruck, cX2_withoutStruck, 4, (some FieldType.int), [], { frames := 1, cells := 0, slots := 0, locals := 21 })
theorem kiX2_withoutStruck : KI mX2_withoutStruck 2 := ⟨rfl, GW_of (i := 419) (by decide +kernel) rfl, GW_of (i := 57) (by decide +kernel) rfl, ⟨by decide +kernel, by decide +kernel⟩, by decide +kernel⟩
def mX3_arm : MI := (yX3_arm, cX3_arm, 3, none, [], { frames := 0, cells := 0, slots := 0, locals := 0 })
theorem kiX3_arm : KI mX3_arm 2 := ⟨rfl, GW_of (i := 545) (by decide +kernel) rfl, GW_of (i := 45) (by decide +kernel) rfl, ⟨by decide +kernel, by decide +kernel⟩, by decide +kernel⟩
def mX3_empty : MI := (yX3_empty, cX3_empty, 1, none, [], { frames := 1, cells := 0, slots := 0, locals := 24 })
theorem kiX3_empty : KI mX3_empty 0 := ⟨rfl, GW_of (i := 481) (by decide +kernel) rfl, GW_of (i := 45) (by decide +kernel) rfl, ⟨by decide +kernel, by decide +kernel⟩, by decide +kernel⟩
def mX3_init : MI := (yX3_init, cX3_init, 1, none, [], { frames := 1, cells := 0, slots := 0, locals := 12 })
theorem kiX3_init : KI mX3_init 0 := ⟨rfl, GW_of (i := 78) (by decide +kernel) rfl, GW_of (i := 45) (by decide +kernel) rfl, ⟨by decide +kernel, by decide +kernel⟩, by decide +kernel⟩
def mX3_take : MI := (yX3_take, cX3_take, 5, none, [], { frames := 0, cells := 0, slots := 0, locals := 0 })
theorem kiX3_take : KI mX3_take 4 := ⟨rfl, GW_of (i := 485) (by decide +kernel) rfl, GW_of (i := 45) (by decide +kernel) rfl, ⟨by decide +kernel, by decide +kernel⟩, by decide +kernel⟩
def mX3_weaponNumber : MI := (yX3_weaponNumber, cX3_weaponNumber, 3, (some FieldType.int), [], { frames := 0, cells := 0, slots := 0, locals := 0 })
theorem kiX3_weaponNumber : KI mX3_weaponNumber 1 := ⟨rfl, GW_of (i := 541) (by decide +kernel) rfl, GW_of (i := 45) (by decide +kernel) rfl, ⟨by decide +kernel, by decide +kernel⟩, by decide +kernel⟩
def mX4_boutAt : MI := (yX4_boutAt, cX4_boutAt, 2, (some (FieldType.object "PisteLine$Bout")), [], { frames := 0, cells := 0, slots := 0, locals := 0 })
theorem kiX4_boutAt : KI mX4_boutAt 1 := ⟨rfl, GW_of (i := 439) (by decide +kernel) rfl, GW_of (i := 46) (by decide +kernel) rfl, ⟨by decide +kernel, by decide +kernel⟩, by decide +kernel⟩
def mX4_drop : MI := (yX4_drop, cX4_drop, 3, none, [], { frames := 2, cells := 0, slots := 0, locals := 44 })
theorem kiX4_drop : KI mX4_drop 2 := ⟨rfl, GW_of (i := 473) (by decide +kernel) rfl, GW_of (i := 46) (by decide +kernel) rfl, ⟨by decide +kernel, by decide +kernel⟩, by decide +kernel⟩
def mX4_hasNode : MI := (yX4_hasNode, cX4_hasNode, 2, (some FieldType.boolean), [], { frames := 0, cells := 0, slots := 0, locals := 0 })
theorem kiX4_hasNode : KI mX4_hasNode 1 := ⟨rfl, GW_of (i := 448) (by decide +kernel) rfl, GW_of (i := 46) (by decide +kernel) rfl, ⟨by decide +kernel, by decide +kernel⟩, by decide +kernel⟩
def mX4_init : MI := (yX4_init, cX4_init, 1, none, [], { frames := 1, cells := 3, slots := 64, locals := 12 })
theorem kiX4_init : KI mX4_init 0 := ⟨rfl, GW_of (i := 110) (by decide +kernel) rfl, GW_of (i := 46) (by decide +kernel) rfl, ⟨by decide +kernel, by decide +kernel⟩, by decide +kernel⟩
def mX4_isDrawn : MI := (yX4_isDrawn, cX4_isDrawn, 1, (some FieldType.boolean), [], { frames := 0, cells := 0, slots := 0, locals := 0 })
theorem kiX4_isDrawn : KI mX4_isDrawn 0 := ⟨rfl, GW_of (i := 399) (by decide +kernel) rfl, GW_of (i := 46) (by decide +kernel) rfl, ⟨by decide +kernel, by decide +kernel⟩, by decide +kernel⟩
def mX4_lay : MI := (yX4_lay, cX4_lay, 4, none, [], { frames := 3, cells := 45, slots := 345, locals := 55 })
theorem kiX4_lay : KI mX4_lay 1 := ⟨rfl, GW_of (i := 895) (by decide +kernel) rfl, GW_of (i := 46) (by decide +kernel) rfl, ⟨by decide +kernel, by decide +kernel⟩, by decide +kernel⟩
def mX4_laySeeds : MI := (yX4_laySeeds, cX4_laySeeds, 4, none, [], { frames := 0, cells := 0, slots := 0, locals := 0 })
theorem kiX4_laySeeds : KI mX4_laySeeds 0 := ⟨rfl, GW_of (i := 900) (by decide +kernel) rfl, GW_of (i := 46) (by decide +kernel) rfl, ⟨by decide +kernel, by decide +kernel⟩, by decide +kernel⟩
def mX4_recount : MI := (yX4_recount, cX4_recount, 3, none, [], { frames := 4, cells := 0, slots := 0, locals := 87 })
theorem kiX4_recount : KI mX4_recount 0 := ⟨rfl, GW_of (i := 435) (by decide +kernel) rfl, GW_of (i := 46) (by decide +kernel) rfl, ⟨by decide +kernel, by decide +kernel⟩, by decide +kernel⟩
def mX4_seat : MI := (yX4_seat, cX4_seat, 4, none, [], { frames := 0, cells := 0, slots := 0, locals := 0 })
theorem kiX4_seat : KI mX4_seat 2 := ⟨rfl, GW_of (i := 904) (by decide +kernel) rfl, GW_of (i := 46) (by decide +kernel) rfl, ⟨by decide +kernel, by decide +kernel⟩, by decide +kernel⟩
def mX4_settle : MI := (yX4_settle, cX4_settle, 5, none, [], { frames := 4, cells := 0, slots := 0, locals := 84 })
theorem kiX4_settle : KI mX4_settle 1 := ⟨rfl, GW_of (i := 444) (by decide +kernel) rfl, GW_of (i := 46) (by decide +kernel) rfl, ⟨by decide +kernel, by decide +kernel⟩, by decide +kernel⟩
def mX4_winnerAt : MI := (yX4_winnerAt, cX4_winnerAt, 2, (some FieldType.int), [], { frames := 1, cells := 0, slots := 0, locals := 21 })
theorem kiX4_winnerAt : KI mX4_winnerAt 1 := ⟨rfl, GW_of (i := 452) (by decide +kernel) rfl, GW_of (i := 46) (by decide +kernel) rfl, ⟨by decide +kernel, by decide +kernel⟩, by decide +kernel⟩
def mX4_winnerNow : MI := (yX4_winnerNow, cX4_winnerNow, 4, (some FieldType.int), [], { frames := 3, cells := 0, slots := 0, locals := 61 })
theorem kiX4_winnerNow : KI mX4_winnerNow 2 := ⟨rfl, GW_of (i := 456) (by decide +kernel) rfl, GW_of (i := 46) (by decide +kernel) rfl, ⟨by decide +kernel, by decide +kernel⟩, by decide +kernel⟩
def mX5_add : MI := (yX5_add, cX5_add, 4, none, [], { frames := 1, cells := 0, slots := 0, locals := 20 })
theorem kiX5_add : KI mX5_add 1 := ⟨rfl, GW_of (i := 427) (by decide +kernel) rfl, GW_of (i := 47) (by decide +kernel) rfl, ⟨by decide +kernel, by decide +kernel⟩, by decide +kernel⟩
def mX5_init : MI := (yX5_init, cX5_init, 1, none, [], { frames := 1, cells := 0, slots := 0, locals := 12 })
theorem kiX5_init : KI mX5_init 0 := ⟨rfl, GW_of (i := 136) (by decide +kernel) rfl, GW_of (i := 47) (by decide +kernel) rfl, ⟨by decide +kernel, by decide +kernel⟩, by decide +kernel⟩
def mX5_isAtGoal : MI := (yX5_isAtGoal, cX5_isAtGoal, 1, (some FieldType.boolean), [], { frames := 0, cells := 0, slots := 0, locals := 0 })
theorem kiX5_isAtGoal : KI mX5_isAtGoal 0 := ⟨rfl, GW_of (i := 431) (by decide +kernel) rfl, GW_of (i := 47) (by decide +kernel) rfl, ⟨by decide +kernel, by decide +kernel⟩, by decide +kernel⟩
def mX5_of : MI := (yX5_of, cX5_of, 2, (some FieldType.int), [], { frames := 0, cells := 0, slots := 0, locals := 0 })
theorem kiX5_of : KI mX5_of 1 := ⟨rfl, GW_of (i := 719) (by decide +kernel) rfl, GW_of (i := 47) (by decide +kernel) rfl, ⟨by decide +kernel, by decide +kernel⟩, by decide +kernel⟩
def mX5_restart : MI := (yX5_restart, cX5_restart, 2, none, [], { frames := 0, cells := 0, slots := 0, locals := 0 })
theorem kiX5_restart : KI mX5_restart 1 := ⟨rfl, GW_of (i := 407) (by decide +kernel) rfl, GW_of (i := 47) (by decide +kernel) rfl, ⟨by decide +kernel, by decide +kernel⟩, by decide +kernel⟩
def mX6_init : MI := (yX6_init, cX6_init, 3, none, [], { frames := 1, cells := 0, slots := 0, locals := 12 })
theorem kiX6_init : KI mX6_init 2 := ⟨rfl, GW_of (i := 343) (by decide +kernel) rfl, GW_of (i := 55) (by decide +kernel) rfl, ⟨by decide +kernel, by decide +kernel⟩, by decide +kernel⟩
def mX6_isFalse : MI := (yX6_isFalse, cX6_isFalse, 2, (some FieldType.boolean), [], { frames := 0, cells := 0, slots := 0, locals := 0 })
theorem kiX6_isFalse : KI mX6_isFalse 1 := ⟨rfl, GW_of (i := 423) (by decide +kernel) rfl, GW_of (i := 55) (by decide +kernel) rfl, ⟨by decide +kernel, by decide +kernel⟩, by decide +kernel⟩
def mX6_isMarkedFor : MI := (yX6_isMarkedFor, cX6_isMarkedFor, 2, (some FieldType.boolean), [], { frames := 0, cells := 0, slots := 0, locals := 0 })
theorem kiX6_isMarkedFor : KI mX6_isMarkedFor 1 := ⟨rfl, GW_of (i := 521) (by decide +kernel) rfl, GW_of (i := 55) (by decide +kernel) rfl, ⟨by decide +kernel, by decide +kernel⟩, by decide +kernel⟩
def mX7_allez : MI := (yX7_allez, cX7_allez, 4, (some FieldType.int), [], { frames := 6, cells := 4, slots := 34, locals := 82 })
theorem kiX7_allez : KI mX7_allez 0 := ⟨rfl, GW_of (i := 552) (by decide +kernel) rfl, GW_of (i := 44) (by decide +kernel) rfl, ⟨by decide +kernel, by decide +kernel⟩, by decide +kernel⟩
def mX7_appeal : MI := (yX7_appeal, cX7_appeal, 7, (some FieldType.int), [], { frames := 6, cells := 1, slots := 6, locals := 108 })
theorem kiX7_appeal : KI mX7_appeal 2 := ⟨rfl, GW_of (i := 676) (by decide +kernel) rfl, GW_of (i := 44) (by decide +kernel) rfl, ⟨by decide +kernel, by decide +kernel⟩, by decide +kernel⟩
def mX7_appeals : MI := (yX7_appeals, cX7_appeals, 4, (some FieldType.int), [], { frames := 6, cells := 1, slots := 6, locals := 82 })
theorem kiX7_appeals : KI mX7_appeals 2 := ⟨rfl, GW_of (i := 763) (by decide +kernel) rfl, GW_of (i := 44) (by decide +kernel) rfl, ⟨by decide +kernel, by decide +kernel⟩, by decide +kernel⟩
def mX7_arePoolsDrawn : MI := (yX7_arePoolsDrawn, cX7_arePoolsDrawn, 1, (some FieldType.boolean), [], { frames := 0, cells := 0, slots := 0, locals := 0 })
theorem kiX7_arePoolsDrawn : KI mX7_arePoolsDrawn 0 := ⟨rfl, GW_of (i := 220) (by decide +kernel) rfl, GW_of (i := 44) (by decide +kernel) rfl, ⟨by decide +kernel, by decide +kernel⟩, by decide +kernel⟩
def mX7_begin : MI := (yX7_begin, cX7_begin, 7, (some FieldType.int), [], { frames := 6, cells := 1, slots := 6, locals := 82 })
theorem kiX7_begin : KI mX7_begin 3 := ⟨rfl, GW_of (i := 506) (by decide +kernel) rfl, GW_of (i := 44) (by decide +kernel) rfl, ⟨by decide +kernel, by decide +kernel⟩, by decide +kernel⟩
def mX7_boutAt : MI := (yX7_boutAt, cX7_boutAt, 2, (some (FieldType.object "PisteLine$Bout")), [], { frames := 1, cells := 0, slots := 0, locals := 21 })
theorem kiX7_boutAt : KI mX7_boutAt 1 := ⟨rfl, GW_of (i := 510) (by decide +kernel) rfl, GW_of (i := 44) (by decide +kernel) rfl, ⟨by decide +kernel, by decide +kernel⟩, by decide +kernel⟩
def mX7_change : MI := (yX7_change, cX7_change, 6, (some FieldType.int), [], { frames := 6, cells := 1, slots := 6, locals := 82 })
theorem kiX7_change : KI mX7_change 2 := ⟨rfl, GW_of (i := 530) (by decide +kernel) rfl, GW_of (i := 44) (by decide +kernel) rfl, ⟨by decide +kernel, by decide +kernel⟩, by decide +kernel⟩
def mX7_contact : MI := (yX7_contact, cX7_contact, 5, (some FieldType.int), [], { frames := 6, cells := 1, slots := 6, locals := 82 })
theorem kiX7_contact : KI mX7_contact 3 := ⟨rfl, GW_of (i := 600) (by decide +kernel) rfl, GW_of (i := 44) (by decide +kernel) rfl, ⟨by decide +kernel, by decide +kernel⟩, by decide +kernel⟩
def mX7_countPools : MI := (yX7_countPools, cX7_countPools, 3, none, [], { frames := 3, cells := 0, slots := 0, locals := 63 })
theorem kiX7_countPools : KI mX7_countPools 0 := ⟨rfl, GW_of (i := 829) (by decide +kernel) rfl, GW_of (i := 44) (by decide +kernel) rfl, ⟨by decide +kernel, by decide +kernel⟩, by decide +kernel⟩
def mX7_countSide : MI := (yX7_countSide, cX7_countSide, 4, none, [], { frames := 2, cells := 0, slots := 0, locals := 40 })
theorem kiX7_countSide : KI mX7_countSide 2 := ⟨rfl, GW_of (i := 838) (by decide +kernel) rfl, GW_of (i := 44) (by decide +kernel) rfl, ⟨by decide +kernel, by decide +kernel⟩, by decide +kernel⟩
def mX7_drawPool : MI := (yX7_drawPool, cX7_drawPool, 5, none, [], { frames := 3, cells := 198, slots := 1518, locals := 55 })
theorem kiX7_drawPool : KI mX7_drawPool 2 := ⟨rfl, GW_of (i := 776) (by decide +kernel) rfl, GW_of (i := 44) (by decide +kernel) rfl, ⟨by decide +kernel, by decide +kernel⟩, by decide +kernel⟩
def mX7_drawPools : MI := (yX7_drawPools, cX7_drawPools, 3, (some FieldType.int), [], { frames := 6, cells := 792, slots := 6072, locals := 82 })
theorem kiX7_drawPools : KI mX7_drawPools 1 := ⟨rfl, GW_of (i := 770) (by decide +kernel) rfl, GW_of (i := 44) (by decide +kernel) rfl, ⟨by decide +kernel, by decide +kernel⟩, by decide +kernel⟩
def mX7_drawTableau : MI := (yX7_drawTableau, cX7_drawTableau, 2, (some FieldType.int), [], { frames := 6, cells := 45, slots := 345, locals := 108 })
theorem kiX7_drawTableau : KI mX7_drawTableau 0 := ⟨rfl, GW_of (i := 884) (by decide +kernel) rfl, GW_of (i := 44) (by decide +kernel) rfl, ⟨by decide +kernel, by decide +kernel⟩, by decide +kernel⟩
def mX7_fail : MI := (yX7_fail, cX7_fail, 4, none, [], { frames := 5, cells := 0, slots := 0, locals := 109 })
theorem kiX7_fail : KI mX7_fail 1 := ⟨rfl, GW_of (i := 395) (by decide +kernel) rfl, GW_of (i := 44) (by decide +kernel) rfl, ⟨by decide +kernel, by decide +kernel⟩, by decide +kernel⟩
def mX7_fencer : MI := (yX7_fencer, cX7_fencer, 2, (some FieldType.int), [], { frames := 6, cells := 1, slots := 6, locals := 82 })
theorem kiX7_fencer : KI mX7_fencer 0 := ⟨rfl, GW_of (i := 216) (by decide +kernel) rfl, GW_of (i := 44) (by decide +kernel) rfl, ⟨by decide +kernel, by decide +kernel⟩, by decide +kernel⟩
def mX7_fencerAt : MI := (yX7_fencerAt, cX7_fencerAt, 2, (some (FieldType.object "PisteLine$Fencer")), [], { frames := 0, cells := 0, slots := 0, locals := 0 })
theorem kiX7_fencerAt : KI mX7_fencerAt 1 := ⟨rfl, GW_of (i := 322) (by decide +kernel) rfl, GW_of (i := 44) (by decide +kernel) rfl, ⟨by decide +kernel, by decide +kernel⟩, by decide +kernel⟩
def mX7_fencerInPlace : MI := (yX7_fencerInPlace, cX7_fencerInPlace, 4, (some FieldType.int), [], { frames := 3, cells := 0, slots := 0, locals := 68 })
theorem kiX7_fencerInPlace : KI mX7_fencerInPlace 1 := ⟨rfl, GW_of (i := 865) (by decide +kernel) rfl, GW_of (i := 44) (by decide +kernel) rfl, ⟨by decide +kernel, by decide +kernel⟩, by decide +kernel⟩
def mX7_fencerOf : MI := (yX7_fencerOf, cX7_fencerOf, 4, (some FieldType.int), [], { frames := 6, cells := 1, slots := 6, locals := 82 })
theorem kiX7_fencerOf : KI mX7_fencerOf 2 := ⟨rfl, GW_of (i := 707) (by decide +kernel) rfl, GW_of (i := 44) (by decide +kernel) rfl, ⟨by decide +kernel, by decide +kernel⟩, by decide +kernel⟩
def mX7_fencers : MI := (yX7_fencers, cX7_fencers, 1, (some FieldType.int), [], { frames := 0, cells := 0, slots := 0, locals := 0 })
theorem kiX7_fencers : KI mX7_fencers 0 := ⟨rfl, GW_of (i := 185) (by decide +kernel) rfl, GW_of (i := 44) (by decide +kernel) rfl, ⟨by decide +kernel, by decide +kernel⟩, by decide +kernel⟩
def mX7_fencersAhead : MI := (yX7_fencersAhead, cX7_fencersAhead, 5, (some FieldType.int), [], { frames := 2, cells := 0, slots := 0, locals := 44 })
theorem kiX7_fencersAhead : KI mX7_fencersAhead 1 := ⟨rfl, GW_of (i := 869) (by decide +kernel) rfl, GW_of (i := 44) (by decide +kernel) rfl, ⟨by decide +kernel, by decide +kernel⟩, by decide +kernel⟩
def mX7_gone : MI := (yX7_gone, cX7_gone, 1, (some FieldType.int), [], { frames := 0, cells := 0, slots := 0, locals := 0 })
theorem kiX7_gone : KI mX7_gone 0 := ⟨rfl, GW_of (i := 205) (by decide +kernel) rfl, GW_of (i := 44) (by decide +kernel) rfl, ⟨by decide +kernel, by decide +kernel⟩, by decide +kernel⟩
def mX7_halt : MI := (yX7_halt, cX7_halt, 3, (some FieldType.int), [], { frames := 6, cells := 1, slots := 6, locals := 108 })
theorem kiX7_halt : KI mX7_halt 0 := ⟨rfl, GW_of (i := 638) (by decide +kernel) rfl, GW_of (i := 44) (by decide +kernel) rfl, ⟨by decide +kernel, by decide +kernel⟩, by decide +kernel⟩
def mX7_index : MI := (yX7_index, cX7_index, 3, (some FieldType.int), [], { frames := 6, cells := 1, slots := 6, locals := 85 })
theorem kiX7_index : KI mX7_index 1 := ⟨rfl, GW_of (i := 849) (by decide +kernel) rfl, GW_of (i := 44) (by decide +kernel) rfl, ⟨by decide +kernel, by decide +kernel⟩, by decide +kernel⟩
def mX7_init : MI := (yX7_init, cX7_init, 2, none, [], { frames := 2, cells := 9, slots := 180, locals := 32 })
theorem kiX7_init : KI mX7_init 1 := ⟨rfl, GW_of (i := 64) (by decide +kernel) rfl, GW_of (i := 44) (by decide +kernel) rfl, ⟨by decide +kernel, by decide +kernel⟩, by decide +kernel⟩
def mX7_isAPoolBoutOpen : MI := (yX7_isAPoolBoutOpen, cX7_isAPoolBoutOpen, 3, (some FieldType.boolean), [], { frames := 2, cells := 0, slots := 0, locals := 40 })
theorem kiX7_isAPoolBoutOpen : KI mX7_isAPoolBoutOpen 0 := ⟨rfl, GW_of (i := 888) (by decide +kernel) rfl, GW_of (i := 44) (by decide +kernel) rfl, ⟨by decide +kernel, by decide +kernel⟩, by decide +kernel⟩
def mX7_isFencing : MI := (yX7_isFencing, cX7_isFencing, 1, (some FieldType.boolean), [], { frames := 0, cells := 0, slots := 0, locals := 0 })
theorem kiX7_isFencing : KI mX7_isFencing 0 := ⟨rfl, GW_of (i := 193) (by decide +kernel) rfl, GW_of (i := 44) (by decide +kernel) rfl, ⟨by decide +kernel, by decide +kernel⟩, by decide +kernel⟩
def mX7_isSide : MI := (yX7_isSide, cX7_isSide, 1, (some FieldType.boolean), [], { frames := 0, cells := 0, slots := 0, locals := 0 })
theorem kiX7_isSide : KI mX7_isSide 1 := ⟨rfl, GW_of (i := 533) (by decide +kernel) rfl, GW_of (i := 44) (by decide +kernel) rfl, ⟨by decide +kernel, by decide +kernel⟩, by decide +kernel⟩
def mX7_isSideOrNone : MI := (yX7_isSideOrNone, cX7_isSideOrNone, 1, (some FieldType.boolean), [], { frames := 1, cells := 0, slots := 0, locals := 20 })
theorem kiX7_isSideOrNone : KI mX7_isSideOrNone 1 := ⟨rfl, GW_of (i := 630) (by decide +kernel) rfl, GW_of (i := 44) (by decide +kernel) rfl, ⟨by decide +kernel, by decide +kernel⟩, by decide +kernel⟩
def mX7_isTooEarly : MI := (yX7_isTooEarly, cX7_isTooEarly, 3, (some FieldType.boolean), [], { frames := 1, cells := 0, slots := 0, locals := 20 })
theorem kiX7_isTooEarly : KI mX7_isTooEarly 1 := ⟨rfl, GW_of (i := 605) (by decide +kernel) rfl, GW_of (i := 44) (by decide +kernel) rfl, ⟨by decide +kernel, by decide +kernel⟩, by decide +kernel⟩
def mX7_mark : MI := (yX7_mark, cX7_mark, 3, (some FieldType.int), [], { frames := 6, cells := 1, slots := 6, locals := 82 })
theorem kiX7_mark : KI mX7_mark 1 := ⟨rfl, GW_of (i := 492) (by decide +kernel) rfl, GW_of (i := 44) (by decide +kernel) rfl, ⟨by decide +kernel, by decide +kernel⟩, by decide +kernel⟩
def mX7_nodeWinner : MI := (yX7_nodeWinner, cX7_nodeWinner, 2, (some FieldType.int), [], { frames := 6, cells := 1, slots := 6, locals := 82 })
theorem kiX7_nodeWinner : KI mX7_nodeWinner 1 := ⟨rfl, GW_of (i := 911) (by decide +kernel) rfl, GW_of (i := 44) (by decide +kernel) rfl, ⟨by decide +kernel, by decide +kernel⟩, by decide +kernel⟩
def mX7_owner : MI := (yX7_owner, cX7_owner, 3, (some FieldType.int), [], { frames := 6, cells := 1, slots := 6, locals := 82 })
theorem kiX7_owner : KI mX7_owner 1 := ⟨rfl, GW_of (i := 499) (by decide +kernel) rfl, GW_of (i := 44) (by decide +kernel) rfl, ⟨by decide +kernel, by decide +kernel⟩, by decide +kernel⟩
def mX7_phrases : MI := (yX7_phrases, cX7_phrases, 3, (some FieldType.int), [], { frames := 6, cells := 1, slots := 6, locals := 82 })
theorem kiX7_phrases : KI mX7_phrases 1 := ⟨rfl, GW_of (i := 748) (by decide +kernel) rfl, GW_of (i := 44) (by decide +kernel) rfl, ⟨by decide +kernel, by decide +kernel⟩, by decide +kernel⟩
def mX7_piste : MI := (yX7_piste, cX7_piste, 1, (some FieldType.int), [], { frames := 0, cells := 0, slots := 0, locals := 0 })
theorem kiX7_piste : KI mX7_piste 0 := ⟨rfl, GW_of (i := 189) (by decide +kernel) rfl, GW_of (i := 44) (by decide +kernel) rfl, ⟨by decide +kernel, by decide +kernel⟩, by decide +kernel⟩
def mX7_poolBouts : MI := (yX7_poolBouts, cX7_poolBouts, 1, (some FieldType.int), [], { frames := 0, cells := 0, slots := 0, locals := 0 })
theorem kiX7_poolBouts : KI mX7_poolBouts 0 := ⟨rfl, GW_of (i := 197) (by decide +kernel) rfl, GW_of (i := 44) (by decide +kernel) rfl, ⟨by decide +kernel, by decide +kernel⟩, by decide +kernel⟩
def mX7_rankedAt : MI := (yX7_rankedAt, cX7_rankedAt, 2, (some FieldType.int), [], { frames := 6, cells := 1, slots := 6, locals := 91 })
theorem kiX7_rankedAt : KI mX7_rankedAt 1 := ⟨rfl, GW_of (i := 860) (by decide +kernel) rfl, GW_of (i := 44) (by decide +kernel) rfl, ⟨by decide +kernel, by decide +kernel⟩, by decide +kernel⟩
def mX7_right : MI := (yX7_right, cX7_right, 4, (some FieldType.int), [], { frames := 6, cells := 1, slots := 6, locals := 82 })
theorem kiX7_right : KI mX7_right 2 := ⟨rfl, GW_of (i := 627) (by decide +kernel) rfl, GW_of (i := 44) (by decide +kernel) rfl, ⟨by decide +kernel, by decide +kernel⟩, by decide +kernel⟩
def mX7_score : MI := (yX7_score, cX7_score, 4, (some FieldType.int), [], { frames := 6, cells := 1, slots := 6, locals := 82 })
theorem kiX7_score : KI mX7_score 2 := ⟨rfl, GW_of (i := 715) (by decide +kernel) rfl, GW_of (i := 44) (by decide +kernel) rfl, ⟨by decide +kernel, by decide +kernel⟩, by decide +kernel⟩
def mX7_scoreAnew : MI := (yX7_scoreAnew, cX7_scoreAnew, 4, (some FieldType.int), [], { frames := 6, cells := 1, slots := 6, locals := 91 })
theorem kiX7_scoreAnew : KI mX7_scoreAnew 2 := ⟨rfl, GW_of (i := 726) (by decide +kernel) rfl, GW_of (i := 44) (by decide +kernel) rfl, ⟨by decide +kernel, by decide +kernel⟩, by decide +kernel⟩
def mX7_size : MI := (yX7_size, cX7_size, 1, (some FieldType.int), [], { frames := 0, cells := 0, slots := 0, locals := 0 })
theorem kiX7_size : KI mX7_size 0 := ⟨rfl, GW_of (i := 201) (by decide +kernel) rfl, GW_of (i := 44) (by decide +kernel) rfl, ⟨by decide +kernel, by decide +kernel⟩, by decide +kernel⟩
def mX7_test : MI := (yX7_test, cX7_test, 6, (some FieldType.boolean), [], { frames := 6, cells := 1, slots := 6, locals := 132 })
theorem kiX7_test : KI mX7_test 3 := ⟨rfl, GW_of (i := 369) (by decide +kernel) rfl, GW_of (i := 44) (by decide +kernel) rfl, ⟨by decide +kernel, by decide +kernel⟩, by decide +kernel⟩
def mX7_touches : MI := (yX7_touches, cX7_touches, 5, (some FieldType.int), [], { frames := 6, cells := 1, slots := 6, locals := 82 })
theorem kiX7_touches : KI mX7_touches 2 := ⟨rfl, GW_of (i := 755) (by decide +kernel) rfl, GW_of (i := 44) (by decide +kernel) rfl, ⟨by decide +kernel, by decide +kernel⟩, by decide +kernel⟩
def mX7_weapon : MI := (yX7_weapon, cX7_weapon, 3, (some FieldType.int), [], { frames := 6, cells := 1, slots := 6, locals := 82 })
theorem kiX7_weapon : KI mX7_weapon 1 := ⟨rfl, GW_of (i := 318) (by decide +kernel) rfl, GW_of (i := 44) (by decide +kernel) rfl, ⟨by decide +kernel, by decide +kernel⟩, by decide +kernel⟩
def mX7_weaponAt : MI := (yX7_weaponAt, cX7_weaponAt, 2, (some (FieldType.object "PisteLine$Weapon")), [], { frames := 0, cells := 0, slots := 0, locals := 0 })
theorem kiX7_weaponAt : KI mX7_weaponAt 1 := ⟨rfl, GW_of (i := 373) (by decide +kernel) rfl, GW_of (i := 44) (by decide +kernel) rfl, ⟨by decide +kernel, by decide +kernel⟩, by decide +kernel⟩
def mX7_weaponOf : MI := (yX7_weaponOf, cX7_weaponOf, 2, (some FieldType.int), [], { frames := 6, cells := 1, slots := 6, locals := 82 })
theorem kiX7_weaponOf : KI mX7_weaponOf 1 := ⟨rfl, GW_of (i := 700) (by decide +kernel) rfl, GW_of (i := 44) (by decide +kernel) rfl, ⟨by decide +kernel, by decide +kernel⟩, by decide +kernel⟩
def mX7_winner : MI := (yX7_winner, cX7_winner, 3, (some FieldType.int), [], { frames := 6, cells := 1, slots := 6, locals := 82 })
theorem kiX7_winner : KI mX7_winner 1 := ⟨rfl, GW_of (i := 738) (by decide +kernel) rfl, GW_of (i := 44) (by decide +kernel) rfl, ⟨by decide +kernel, by decide +kernel⟩, by decide +kernel⟩
def mX7_won : MI := (yX7_won, cX7_won, 3, (some FieldType.int), [], { frames := 6, cells := 1, slots := 6, locals := 85 })
theorem kiX7_won : KI mX7_won 1 := ⟨rfl, GW_of (i := 825) (by decide +kernel) rfl, GW_of (i := 44) (by decide +kernel) rfl, ⟨by decide +kernel, by decide +kernel⟩, by decide +kernel⟩
def mX8_adds : MI := (yX8_adds, cX8_adds, 5, none, [], { frames := 0, cells := 0, slots := 0, locals := 0 })
theorem kiX8_adds : KI mX8_adds 4 := ⟨rfl, GW_of (i := 1217) (by decide +kernel) rfl, GW_of (i := 48) (by decide +kernel) rfl, ⟨by decide +kernel, by decide +kernel⟩, by decide +kernel⟩
def mX8_allez : MI := (yX8_allez, cX8_allez, 4, (some FieldType.int), [], { frames := 5, cells := 0, slots := 0, locals := 120 })
theorem kiX8_allez : KI mX8_allez 0 := ⟨rfl, GW_of (i := 1124) (by decide +kernel) rfl, GW_of (i := 48) (by decide +kernel) rfl, ⟨by decide +kernel, by decide +kernel⟩, by decide +kernel⟩
def mX8_appeal : MI := (yX8_appeal, cX8_appeal, 8, (some FieldType.int), [], { frames := 5, cells := 0, slots := 0, locals := 124 })
theorem kiX8_appeal : KI mX8_appeal 2 := ⟨rfl, GW_of (i := 1156) (by decide +kernel) rfl, GW_of (i := 48) (by decide +kernel) rfl, ⟨by decide +kernel, by decide +kernel⟩, by decide +kernel⟩
def mX8_appeals : MI := (yX8_appeals, cX8_appeals, 3, (some FieldType.int), [], { frames := 2, cells := 0, slots := 0, locals := 43 })
theorem kiX8_appeals : KI mX8_appeals 2 := ⟨rfl, GW_of (i := 1197) (by decide +kernel) rfl, GW_of (i := 48) (by decide +kernel) rfl, ⟨by decide +kernel, by decide +kernel⟩, by decide +kernel⟩
def mX8_areDecided : MI := (yX8_areDecided, cX8_areDecided, 3, (some FieldType.boolean), [], { frames := 4, cells := 0, slots := 0, locals := 99 })
theorem kiX8_areDecided : KI mX8_areDecided 0 := ⟨rfl, GW_of (i := 1241) (by decide +kernel) rfl, GW_of (i := 48) (by decide +kernel) rfl, ⟨by decide +kernel, by decide +kernel⟩, by decide +kernel⟩
def mX8_begin : MI := (yX8_begin, cX8_begin, 6, (some FieldType.int), [], { frames := 5, cells := 0, slots := 0, locals := 120 })
theorem kiX8_begin : KI mX8_begin 3 := ⟨rfl, GW_of (i := 1094) (by decide +kernel) rfl, GW_of (i := 48) (by decide +kernel) rfl, ⟨by decide +kernel, by decide +kernel⟩, by decide +kernel⟩
def mX8_change : MI := (yX8_change, cX8_change, 5, (some FieldType.int), [], { frames := 2, cells := 0, slots := 0, locals := 45 })
theorem kiX8_change : KI mX8_change 2 := ⟨rfl, GW_of (i := 1117) (by decide +kernel) rfl, GW_of (i := 48) (by decide +kernel) rfl, ⟨by decide +kernel, by decide +kernel⟩, by decide +kernel⟩
def mX8_contact : MI := (yX8_contact, cX8_contact, 4, (some FieldType.int), [], { frames := 3, cells := 0, slots := 0, locals := 64 })
theorem kiX8_contact : KI mX8_contact 3 := ⟨rfl, GW_of (i := 1128) (by decide +kernel) rfl, GW_of (i := 48) (by decide +kernel) rfl, ⟨by decide +kernel, by decide +kernel⟩, by decide +kernel⟩
def mX8_counts : MI := (yX8_counts, cX8_counts, 3, (some FieldType.boolean), [], { frames := 0, cells := 0, slots := 0, locals := 0 })
theorem kiX8_counts : KI mX8_counts 2 := ⟨rfl, GW_of (i := 1074) (by decide +kernel) rfl, GW_of (i := 48) (by decide +kernel) rfl, ⟨by decide +kernel, by decide +kernel⟩, by decide +kernel⟩
def mX8_drawPools : MI := (yX8_drawPools, cX8_drawPools, 6, (some FieldType.int), [], { frames := 1, cells := 0, slots := 0, locals := 23 })
theorem kiX8_drawPools : KI mX8_drawPools 1 := ⟨rfl, GW_of (i := 1201) (by decide +kernel) rfl, GW_of (i := 48) (by decide +kernel) rfl, ⟨by decide +kernel, by decide +kernel⟩, by decide +kernel⟩
def mX8_drawTableau : MI := (yX8_drawTableau, cX8_drawTableau, 4, (some FieldType.int), [], { frames := 5, cells := 0, slots := 0, locals := 124 })
theorem kiX8_drawTableau : KI mX8_drawTableau 0 := ⟨rfl, GW_of (i := 1237) (by decide +kernel) rfl, GW_of (i := 48) (by decide +kernel) rfl, ⟨by decide +kernel, by decide +kernel⟩, by decide +kernel⟩
def mX8_event : MI := (yX8_event, cX8_event, 4, (some FieldType.int), [], { frames := 2, cells := 0, slots := 0, locals := 41 })
theorem kiX8_event : KI mX8_event 2 := ⟨rfl, GW_of (i := 1144) (by decide +kernel) rfl, GW_of (i := 48) (by decide +kernel) rfl, ⟨by decide +kernel, by decide +kernel⟩, by decide +kernel⟩
def mX8_fencer : MI := (yX8_fencer, cX8_fencer, 1, (some FieldType.int), [], { frames := 1, cells := 0, slots := 0, locals := 23 })
theorem kiX8_fencer : KI mX8_fencer 0 := ⟨rfl, GW_of (i := 1031) (by decide +kernel) rfl, GW_of (i := 48) (by decide +kernel) rfl, ⟨by decide +kernel, by decide +kernel⟩, by decide +kernel⟩
def mX8_fencerAt : MI := (yX8_fencerAt, cX8_fencerAt, 3, (some FieldType.int), [], { frames := 0, cells := 0, slots := 0, locals := 0 })
theorem kiX8_fencerAt : KI mX8_fencerAt 2 := ⟨rfl, GW_of (i := 1102) (by decide +kernel) rfl, GW_of (i := 48) (by decide +kernel) rfl, ⟨by decide +kernel, by decide +kernel⟩, by decide +kernel⟩
def mX8_fencerOf : MI := (yX8_fencerOf, cX8_fencerOf, 4, (some FieldType.int), [], { frames := 2, cells := 0, slots := 0, locals := 43 })
theorem kiX8_fencerOf : KI mX8_fencerOf 2 := ⟨rfl, GW_of (i := 1172) (by decide +kernel) rfl, GW_of (i := 48) (by decide +kernel) rfl, ⟨by decide +kernel, by decide +kernel⟩, by decide +kernel⟩
def mX8_fencers : MI := (yX8_fencers, cX8_fencers, 1, (some FieldType.int), [], { frames := 0, cells := 0, slots := 0, locals := 0 })
theorem kiX8_fencers : KI mX8_fencers 0 := ⟨rfl, GW_of (i := 1082) (by decide +kernel) rfl, GW_of (i := 48) (by decide +kernel) rfl, ⟨by decide +kernel, by decide +kernel⟩, by decide +kernel⟩
def mX8_follows : MI := (yX8_follows, cX8_follows, 6, none, [], { frames := 4, cells := 0, slots := 0, locals := 99 })
theorem kiX8_follows : KI mX8_follows 0 := ⟨rfl, GW_of (i := 1058) (by decide +kernel) rfl, GW_of (i := 48) (by decide +kernel) rfl, ⟨by decide +kernel, by decide +kernel⟩, by decide +kernel⟩
def mX8_goes : MI := (yX8_goes, cX8_goes, 4, (some FieldType.boolean), [], { frames := 0, cells := 0, slots := 0, locals := 0 })
theorem kiX8_goes : KI mX8_goes 3 := ⟨rfl, GW_of (i := 1035) (by decide +kernel) rfl, GW_of (i := 48) (by decide +kernel) rfl, ⟨by decide +kernel, by decide +kernel⟩, by decide +kernel⟩
def mX8_gone : MI := (yX8_gone, cX8_gone, 1, (some FieldType.int), [], { frames := 0, cells := 0, slots := 0, locals := 0 })
theorem kiX8_gone : KI mX8_gone 0 := ⟨rfl, GW_of (i := 1253) (by decide +kernel) rfl, GW_of (i := 48) (by decide +kernel) rfl, ⟨by decide +kernel, by decide +kernel⟩, by decide +kernel⟩
def mX8_halt : MI := (yX8_halt, cX8_halt, 3, (some FieldType.int), [], { frames := 5, cells := 0, slots := 0, locals := 124 })
theorem kiX8_halt : KI mX8_halt 0 := ⟨rfl, GW_of (i := 1152) (by decide +kernel) rfl, GW_of (i := 48) (by decide +kernel) rfl, ⟨by decide +kernel, by decide +kernel⟩, by decide +kernel⟩
def mX8_hears : MI := (yX8_hears, cX8_hears, 1, (some FieldType.boolean), [], { frames := 2, cells := 0, slots := 0, locals := 41 })
theorem kiX8_hears : KI mX8_hears 0 := ⟨rfl, GW_of (i := 1140) (by decide +kernel) rfl, GW_of (i := 48) (by decide +kernel) rfl, ⟨by decide +kernel, by decide +kernel⟩, by decide +kernel⟩
def mX8_in : MI := (yX8_in, cX8_in, 3, (some FieldType.boolean), [], { frames := 0, cells := 0, slots := 0, locals := 0 })
theorem kiX8_in : KI mX8_in 3 := ⟨rfl, GW_of (i := 1046) (by decide +kernel) rfl, GW_of (i := 48) (by decide +kernel) rfl, ⟨by decide +kernel, by decide +kernel⟩, by decide +kernel⟩
def mX8_index : MI := (yX8_index, cX8_index, 2, (some FieldType.int), [], { frames := 5, cells := 0, slots := 0, locals := 120 })
theorem kiX8_index : KI mX8_index 1 := ⟨rfl, GW_of (i := 1221) (by decide +kernel) rfl, GW_of (i := 48) (by decide +kernel) rfl, ⟨by decide +kernel, by decide +kernel⟩, by decide +kernel⟩
def mX8_init : MI := (yX8_init, cX8_init, 2, none, [], { frames := 1, cells := 20, slots := 20260, locals := 12 })
theorem kiX8_init : KI mX8_init 1 := ⟨rfl, GW_of (i := 918) (by decide +kernel) rfl, GW_of (i := 48) (by decide +kernel) rfl, ⟨by decide +kernel, by decide +kernel⟩, by decide +kernel⟩
def mX8_isAhead : MI := (yX8_isAhead, cX8_isAhead, 4, (some FieldType.boolean), [], { frames := 0, cells := 0, slots := 0, locals := 0 })
theorem kiX8_isAhead : KI mX8_isAhead 2 := ⟨rfl, GW_of (i := 1233) (by decide +kernel) rfl, GW_of (i := 48) (by decide +kernel) rfl, ⟨by decide +kernel, by decide +kernel⟩, by decide +kernel⟩
def mX8_isBout : MI := (yX8_isBout, cX8_isBout, 2, (some FieldType.boolean), [], { frames := 1, cells := 0, slots := 0, locals := 22 })
theorem kiX8_isBout : KI mX8_isBout 1 := ⟨rfl, GW_of (i := 1098) (by decide +kernel) rfl, GW_of (i := 48) (by decide +kernel) rfl, ⟨by decide +kernel, by decide +kernel⟩, by decide +kernel⟩
def mX8_isFencer : MI := (yX8_isFencer, cX8_isFencer, 2, (some FieldType.boolean), [], { frames := 1, cells := 0, slots := 0, locals := 22 })
theorem kiX8_isFencer : KI mX8_isFencer 1 := ⟨rfl, GW_of (i := 1043) (by decide +kernel) rfl, GW_of (i := 48) (by decide +kernel) rfl, ⟨by decide +kernel, by decide +kernel⟩, by decide +kernel⟩
def mX8_isFencing : MI := (yX8_isFencing, cX8_isFencing, 1, (some FieldType.boolean), [], { frames := 0, cells := 0, slots := 0, locals := 0 })
theorem kiX8_isFencing : KI mX8_isFencing 0 := ⟨rfl, GW_of (i := 1164) (by decide +kernel) rfl, GW_of (i := 48) (by decide +kernel) rfl, ⟨by decide +kernel, by decide +kernel⟩, by decide +kernel⟩
def mX8_isFit : MI := (yX8_isFit, cX8_isFit, 4, (some FieldType.boolean), [], { frames := 1, cells := 0, slots := 0, locals := 22 })
theorem kiX8_isFit : KI mX8_isFit 3 := ⟨rfl, GW_of (i := 1110) (by decide +kernel) rfl, GW_of (i := 48) (by decide +kernel) rfl, ⟨by decide +kernel, by decide +kernel⟩, by decide +kernel⟩
def mX8_isSide : MI := (yX8_isSide, cX8_isSide, 1, (some FieldType.boolean), [], { frames := 1, cells := 0, slots := 0, locals := 22 })
theorem kiX8_isSide : KI mX8_isSide 1 := ⟨rfl, GW_of (i := 1120) (by decide +kernel) rfl, GW_of (i := 48) (by decide +kernel) rfl, ⟨by decide +kernel, by decide +kernel⟩, by decide +kernel⟩
def mX8_isTime : MI := (yX8_isTime, cX8_isTime, 4, (some FieldType.boolean), [], { frames := 2, cells := 0, slots := 0, locals := 41 })
theorem kiX8_isTime : KI mX8_isTime 1 := ⟨rfl, GW_of (i := 1132) (by decide +kernel) rfl, GW_of (i := 48) (by decide +kernel) rfl, ⟨by decide +kernel, by decide +kernel⟩, by decide +kernel⟩
def mX8_isWeapon : MI := (yX8_isWeapon, cX8_isWeapon, 2, (some FieldType.boolean), [], { frames := 1, cells := 0, slots := 0, locals := 22 })
theorem kiX8_isWeapon : KI mX8_isWeapon 1 := ⟨rfl, GW_of (i := 1054) (by decide +kernel) rfl, GW_of (i := 48) (by decide +kernel) rfl, ⟨by decide +kernel, by decide +kernel⟩, by decide +kernel⟩
def mX8_judged : MI := (yX8_judged, cX8_judged, 10, (some FieldType.int), [], { frames := 1, cells := 0, slots := 0, locals := 22 })
theorem kiX8_judged : KI mX8_judged 1 := ⟨rfl, GW_of (i := 1070) (by decide +kernel) rfl, GW_of (i := 48) (by decide +kernel) rfl, ⟨by decide +kernel, by decide +kernel⟩, by decide +kernel⟩
def mX8_latest : MI := (yX8_latest, cX8_latest, 2, (some FieldType.int), [], { frames := 1, cells := 0, slots := 0, locals := 20 })
theorem kiX8_latest : KI mX8_latest 0 := ⟨rfl, GW_of (i := 1136) (by decide +kernel) rfl, GW_of (i := 48) (by decide +kernel) rfl, ⟨by decide +kernel, by decide +kernel⟩, by decide +kernel⟩
def mX8_mark : MI := (yX8_mark, cX8_mark, 2, (some FieldType.int), [], { frames := 2, cells := 0, slots := 0, locals := 43 })
theorem kiX8_mark : KI mX8_mark 1 := ⟨rfl, GW_of (i := 1086) (by decide +kernel) rfl, GW_of (i := 48) (by decide +kernel) rfl, ⟨by decide +kernel, by decide +kernel⟩, by decide +kernel⟩
def mX8_nodeWinner : MI := (yX8_nodeWinner, cX8_nodeWinner, 2, (some FieldType.int), [], { frames := 1, cells := 0, slots := 0, locals := 23 })
theorem kiX8_nodeWinner : KI mX8_nodeWinner 1 := ⟨rfl, GW_of (i := 1249) (by decide +kernel) rfl, GW_of (i := 48) (by decide +kernel) rfl, ⟨by decide +kernel, by decide +kernel⟩, by decide +kernel⟩
def mX8_owner : MI := (yX8_owner, cX8_owner, 2, (some FieldType.int), [], { frames := 2, cells := 0, slots := 0, locals := 43 })
theorem kiX8_owner : KI mX8_owner 1 := ⟨rfl, GW_of (i := 1090) (by decide +kernel) rfl, GW_of (i := 48) (by decide +kernel) rfl, ⟨by decide +kernel, by decide +kernel⟩, by decide +kernel⟩
def mX8_phrases : MI := (yX8_phrases, cX8_phrases, 2, (some FieldType.int), [], { frames := 2, cells := 0, slots := 0, locals := 43 })
theorem kiX8_phrases : KI mX8_phrases 1 := ⟨rfl, GW_of (i := 1189) (by decide +kernel) rfl, GW_of (i := 48) (by decide +kernel) rfl, ⟨by decide +kernel, by decide +kernel⟩, by decide +kernel⟩
def mX8_piste : MI := (yX8_piste, cX8_piste, 1, (some FieldType.int), [], { frames := 0, cells := 0, slots := 0, locals := 0 })
theorem kiX8_piste : KI mX8_piste 0 := ⟨rfl, GW_of (i := 1160) (by decide +kernel) rfl, GW_of (i := 48) (by decide +kernel) rfl, ⟨by decide +kernel, by decide +kernel⟩, by decide +kernel⟩
def mX8_poolBouts : MI := (yX8_poolBouts, cX8_poolBouts, 1, (some FieldType.int), [], { frames := 0, cells := 0, slots := 0, locals := 0 })
theorem kiX8_poolBouts : KI mX8_poolBouts 0 := ⟨rfl, GW_of (i := 1205) (by decide +kernel) rfl, GW_of (i := 48) (by decide +kernel) rfl, ⟨by decide +kernel, by decide +kernel⟩, by decide +kernel⟩
def mX8_ranked : MI := (yX8_ranked, cX8_ranked, 6, (some FieldType.int), [], { frames := 1, cells := 0, slots := 0, locals := 23 })
theorem kiX8_ranked : KI mX8_ranked 1 := ⟨rfl, GW_of (i := 1229) (by decide +kernel) rfl, GW_of (i := 48) (by decide +kernel) rfl, ⟨by decide +kernel, by decide +kernel⟩, by decide +kernel⟩
def mX8_rankedAt : MI := (yX8_rankedAt, cX8_rankedAt, 2, (some FieldType.int), [], { frames := 5, cells := 0, slots := 0, locals := 120 })
theorem kiX8_rankedAt : KI mX8_rankedAt 1 := ⟨rfl, GW_of (i := 1225) (by decide +kernel) rfl, GW_of (i := 48) (by decide +kernel) rfl, ⟨by decide +kernel, by decide +kernel⟩, by decide +kernel⟩
def mX8_right : MI := (yX8_right, cX8_right, 3, (some FieldType.int), [], { frames := 3, cells := 0, slots := 0, locals := 64 })
theorem kiX8_right : KI mX8_right 2 := ⟨rfl, GW_of (i := 1148) (by decide +kernel) rfl, GW_of (i := 48) (by decide +kernel) rfl, ⟨by decide +kernel, by decide +kernel⟩, by decide +kernel⟩
def mX8_score : MI := (yX8_score, cX8_score, 3, (some FieldType.int), [], { frames := 4, cells := 0, slots := 0, locals := 99 })
theorem kiX8_score : KI mX8_score 2 := ⟨rfl, GW_of (i := 1176) (by decide +kernel) rfl, GW_of (i := 48) (by decide +kernel) rfl, ⟨by decide +kernel, by decide +kernel⟩, by decide +kernel⟩
def mX8_scoreAnew : MI := (yX8_scoreAnew, cX8_scoreAnew, 3, (some FieldType.int), [], { frames := 5, cells := 0, slots := 0, locals := 121 })
theorem kiX8_scoreAnew : KI mX8_scoreAnew 2 := ⟨rfl, GW_of (i := 1180) (by decide +kernel) rfl, GW_of (i := 48) (by decide +kernel) rfl, ⟨by decide +kernel, by decide +kernel⟩, by decide +kernel⟩
def mX8_size : MI := (yX8_size, cX8_size, 1, (some FieldType.int), [], { frames := 0, cells := 0, slots := 0, locals := 0 })
theorem kiX8_size : KI mX8_size 0 := ⟨rfl, GW_of (i := 1245) (by decide +kernel) rfl, GW_of (i := 48) (by decide +kernel) rfl, ⟨by decide +kernel, by decide +kernel⟩, by decide +kernel⟩
def mX8_slotOf : MI := (yX8_slotOf, cX8_slotOf, 1, (some FieldType.int), [], { frames := 0, cells := 0, slots := 0, locals := 0 })
theorem kiX8_slotOf : KI mX8_slotOf 1 := ⟨rfl, GW_of (i := 1113) (by decide +kernel) rfl, GW_of (i := 48) (by decide +kernel) rfl, ⟨by decide +kernel, by decide +kernel⟩, by decide +kernel⟩
def mX8_strikes : MI := (yX8_strikes, cX8_strikes, 3, (some FieldType.boolean), [], { frames := 0, cells := 0, slots := 0, locals := 0 })
theorem kiX8_strikes : KI mX8_strikes 2 := ⟨rfl, GW_of (i := 1078) (by decide +kernel) rfl, GW_of (i := 48) (by decide +kernel) rfl, ⟨by decide +kernel, by decide +kernel⟩, by decide +kernel⟩
def mX8_sums : MI := (yX8_sums, cX8_sums, 2, none, [], { frames := 4, cells := 0, slots := 0, locals := 99 })
theorem kiX8_sums : KI mX8_sums 0 := ⟨rfl, GW_of (i := 1213) (by decide +kernel) rfl, GW_of (i := 48) (by decide +kernel) rfl, ⟨by decide +kernel, by decide +kernel⟩, by decide +kernel⟩
def mX8_tells : MI := (yX8_tells, cX8_tells, 5, none, [], { frames := 3, cells := 0, slots := 0, locals := 75 })
theorem kiX8_tells : KI mX8_tells 1 := ⟨rfl, GW_of (i := 1062) (by decide +kernel) rfl, GW_of (i := 48) (by decide +kernel) rfl, ⟨by decide +kernel, by decide +kernel⟩, by decide +kernel⟩
def mX8_test : MI := (yX8_test, cX8_test, 6, (some FieldType.boolean), [], { frames := 5, cells := 0, slots := 0, locals := 124 })
theorem kiX8_test : KI mX8_test 3 := ⟨rfl, GW_of (i := 1050) (by decide +kernel) rfl, GW_of (i := 48) (by decide +kernel) rfl, ⟨by decide +kernel, by decide +kernel⟩, by decide +kernel⟩
def mX8_thrown : MI := (yX8_thrown, cX8_thrown, 1, (some FieldType.int), [], { frames := 0, cells := 0, slots := 0, locals := 0 })
theorem kiX8_thrown : KI mX8_thrown 0 := ⟨rfl, GW_of (i := 1027) (by decide +kernel) rfl, GW_of (i := 48) (by decide +kernel) rfl, ⟨by decide +kernel, by decide +kernel⟩, by decide +kernel⟩
def mX8_touched : MI := (yX8_touched, cX8_touched, 5, (some FieldType.int), [], { frames := 2, cells := 0, slots := 0, locals := 51 })
theorem kiX8_touched : KI mX8_touched 2 := ⟨rfl, GW_of (i := 1066) (by decide +kernel) rfl, GW_of (i := 48) (by decide +kernel) rfl, ⟨by decide +kernel, by decide +kernel⟩, by decide +kernel⟩
def mX8_touches : MI := (yX8_touches, cX8_touches, 4, (some FieldType.int), [], { frames := 3, cells := 0, slots := 0, locals := 75 })
theorem kiX8_touches : KI mX8_touches 2 := ⟨rfl, GW_of (i := 1193) (by decide +kernel) rfl, GW_of (i := 48) (by decide +kernel) rfl, ⟨by decide +kernel, by decide +kernel⟩, by decide +kernel⟩
def mX8_weapon : MI := (yX8_weapon, cX8_weapon, 2, (some FieldType.int), [], { frames := 2, cells := 0, slots := 0, locals := 43 })
theorem kiX8_weapon : KI mX8_weapon 1 := ⟨rfl, GW_of (i := 1039) (by decide +kernel) rfl, GW_of (i := 48) (by decide +kernel) rfl, ⟨by decide +kernel, by decide +kernel⟩, by decide +kernel⟩
def mX8_weaponOf : MI := (yX8_weaponOf, cX8_weaponOf, 2, (some FieldType.int), [], { frames := 2, cells := 0, slots := 0, locals := 42 })
theorem kiX8_weaponOf : KI mX8_weaponOf 1 := ⟨rfl, GW_of (i := 1168) (by decide +kernel) rfl, GW_of (i := 48) (by decide +kernel) rfl, ⟨by decide +kernel, by decide +kernel⟩, by decide +kernel⟩
def mX8_winner : MI := (yX8_winner, cX8_winner, 2, (some FieldType.int), [], { frames := 5, cells := 0, slots := 0, locals := 120 })
theorem kiX8_winner : KI mX8_winner 1 := ⟨rfl, GW_of (i := 1185) (by decide +kernel) rfl, GW_of (i := 48) (by decide +kernel) rfl, ⟨by decide +kernel, by decide +kernel⟩, by decide +kernel⟩
def mX8_winnerOf : MI := (yX8_winnerOf, cX8_winnerOf, 2, (some FieldType.int), [], { frames := 4, cells := 0, slots := 0, locals := 99 })
theorem kiX8_winnerOf : KI mX8_winnerOf 1 := ⟨rfl, GW_of (i := 1106) (by decide +kernel) rfl, GW_of (i := 48) (by decide +kernel) rfl, ⟨by decide +kernel, by decide +kernel⟩, by decide +kernel⟩
def mX8_won : MI := (yX8_won, cX8_won, 2, (some FieldType.int), [], { frames := 5, cells := 0, slots := 0, locals := 120 })
theorem kiX8_won : KI mX8_won 1 := ⟨rfl, GW_of (i := 1209) (by decide +kernel) rfl, GW_of (i := 48) (by decide +kernel) rfl, ⟨by decide +kernel, by decide +kernel⟩, by decide +kernel⟩
theorem ca_L_41 : VI RL 41 mX7_allez 0 7 := ⟨kiX7_allez, GW_of (i := 549) (by decide +kernel) rfl, GW_of (i := 550) (by decide +kernel) rfl, GW_of (i := 551) (by decide +kernel) rfl, TX7, 10, rfl⟩
theorem ca_L_54 : VI RL 54 mX7_appeal 2 7 := ⟨kiX7_appeal, GW_of (i := 673) (by decide +kernel) rfl, GW_of (i := 674) (by decide +kernel) rfl, GW_of (i := 675) (by decide +kernel) rfl, TX7, 10, rfl⟩
theorem ca_L_78 : VI RL 78 mX7_appeals 2 7 := ⟨kiX7_appeals, GW_of (i := 760) (by decide +kernel) rfl, GW_of (i := 761) (by decide +kernel) rfl, GW_of (i := 762) (by decide +kernel) rfl, TX7, 10, rfl⟩
theorem ca_L_33 : VI RL 33 mX7_begin 3 7 := ⟨kiX7_begin, GW_of (i := 503) (by decide +kernel) rfl, GW_of (i := 504) (by decide +kernel) rfl, GW_of (i := 505) (by decide +kernel) rfl, TX7, 10, rfl⟩
theorem ca_L_37 : VI RL 37 mX7_change 2 7 := ⟨kiX7_change, GW_of (i := 527) (by decide +kernel) rfl, GW_of (i := 528) (by decide +kernel) rfl, GW_of (i := 529) (by decide +kernel) rfl, TX7, 10, rfl⟩
theorem ca_L_44 : VI RL 44 mX7_contact 3 7 := ⟨kiX7_contact, GW_of (i := 597) (by decide +kernel) rfl, GW_of (i := 598) (by decide +kernel) rfl, GW_of (i := 599) (by decide +kernel) rfl, TX7, 10, rfl⟩
theorem ca_L_81 : VI RL 81 mX7_drawPools 1 7 := ⟨kiX7_drawPools, GW_of (i := 767) (by decide +kernel) rfl, GW_of (i := 768) (by decide +kernel) rfl, GW_of (i := 769) (by decide +kernel) rfl, TX7, 10, rfl⟩
theorem ca_L_93 : VI RL 93 mX7_drawTableau 0 7 := ⟨kiX7_drawTableau, GW_of (i := 881) (by decide +kernel) rfl, GW_of (i := 882) (by decide +kernel) rfl, GW_of (i := 883) (by decide +kernel) rfl, TX7, 10, rfl⟩
theorem ca_L_7 : VI RL 7 mX7_fencer 0 7 := ⟨kiX7_fencer, GW_of (i := 213) (by decide +kernel) rfl, GW_of (i := 214) (by decide +kernel) rfl, GW_of (i := 215) (by decide +kernel) rfl, TX7, 10, rfl⟩
theorem ca_L_60 : VI RL 60 mX7_fencerOf 2 7 := ⟨kiX7_fencerOf, GW_of (i := 704) (by decide +kernel) rfl, GW_of (i := 705) (by decide +kernel) rfl, GW_of (i := 706) (by decide +kernel) rfl, TX7, 10, rfl⟩
theorem ca_L_51 : VI RL 51 mX7_halt 0 7 := ⟨kiX7_halt, GW_of (i := 635) (by decide +kernel) rfl, GW_of (i := 636) (by decide +kernel) rfl, GW_of (i := 637) (by decide +kernel) rfl, TX7, 10, rfl⟩
theorem ca_L_87 : VI RL 87 mX7_index 1 7 := ⟨kiX7_index, GW_of (i := 846) (by decide +kernel) rfl, GW_of (i := 847) (by decide +kernel) rfl, GW_of (i := 848) (by decide +kernel) rfl, TX7, 10, rfl⟩
theorem ca_L_99 : SI RL 99 mL_cell 2 := ⟨kiL_cell, GW_of (i := 206) (by decide +kernel) rfl, GW_of (i := 207) (by decide +kernel) rfl⟩
theorem ca_L_105 : II RL 105 mX7_init 1 := ⟨kiX7_init, GW_of (i := 62) (by decide +kernel) rfl, GW_of (i := 63) (by decide +kernel) rfl, rfl⟩
theorem ca_L_110 : II RL 110 mX8_init 1 := ⟨kiX8_init, GW_of (i := 916) (by decide +kernel) rfl, GW_of (i := 917) (by decide +kernel) rfl, rfl⟩
theorem ca_L_111 : WI RL 111 mL_fencer 2 := ⟨by decide, GW_of (i := 211) (by decide +kernel) rfl, GW_of (i := 43) (by decide +kernel) rfl, ⟨by decide +kernel, by decide +kernel⟩, GW_of (i := 209) (by decide +kernel) rfl, GW_of (i := 210) (by decide +kernel) rfl, by decide +kernel⟩
theorem ca_L_114 : VI RL 114 mX8_fencer 0 8 := ⟨kiX8_fencer, GW_of (i := 1028) (by decide +kernel) rfl, GW_of (i := 1029) (by decide +kernel) rfl, GW_of (i := 1030) (by decide +kernel) rfl, TX8, 34, rfl⟩
theorem ca_L_115 : VI RL 115 mX8_thrown 0 8 := ⟨kiX8_thrown, GW_of (i := 1024) (by decide +kernel) rfl, GW_of (i := 1025) (by decide +kernel) rfl, GW_of (i := 1026) (by decide +kernel) rfl, TX8, 34, rfl⟩
theorem ca_L_118 : WI RL 118 mL_weapon 3 := ⟨by decide, GW_of (i := 313) (by decide +kernel) rfl, GW_of (i := 43) (by decide +kernel) rfl, ⟨by decide +kernel, by decide +kernel⟩, GW_of (i := 311) (by decide +kernel) rfl, GW_of (i := 312) (by decide +kernel) rfl, by decide +kernel⟩
theorem ca_L_121 : VI RL 121 mX8_weapon 1 8 := ⟨kiX8_weapon, GW_of (i := 1036) (by decide +kernel) rfl, GW_of (i := 1037) (by decide +kernel) rfl, GW_of (i := 1038) (by decide +kernel) rfl, TX8, 34, rfl⟩
theorem ca_L_122 : WI RL 122 mL_test 5 := ⟨by decide, GW_of (i := 364) (by decide +kernel) rfl, GW_of (i := 43) (by decide +kernel) rfl, ⟨by decide +kernel, by decide +kernel⟩, GW_of (i := 362) (by decide +kernel) rfl, GW_of (i := 363) (by decide +kernel) rfl, by decide +kernel⟩
theorem ca_L_125 : VI RL 125 mX8_test 3 8 := ⟨kiX8_test, GW_of (i := 1047) (by decide +kernel) rfl, GW_of (i := 1048) (by decide +kernel) rfl, GW_of (i := 1049) (by decide +kernel) rfl, TX8, 34, rfl⟩
theorem ca_L_126 : VI RL 126 mX7_fencers 0 7 := ⟨kiX7_fencers, GW_of (i := 182) (by decide +kernel) rfl, GW_of (i := 183) (by decide +kernel) rfl, GW_of (i := 184) (by decide +kernel) rfl, TX7, 10, rfl⟩
theorem ca_L_129 : VI RL 129 mX8_fencers 0 8 := ⟨kiX8_fencers, GW_of (i := 1079) (by decide +kernel) rfl, GW_of (i := 1080) (by decide +kernel) rfl, GW_of (i := 1081) (by decide +kernel) rfl, TX8, 34, rfl⟩
theorem ca_L_130 : WI RL 130 mL_mark 3 := ⟨by decide, GW_of (i := 488) (by decide +kernel) rfl, GW_of (i := 43) (by decide +kernel) rfl, ⟨by decide +kernel, by decide +kernel⟩, GW_of (i := 486) (by decide +kernel) rfl, GW_of (i := 487) (by decide +kernel) rfl, by decide +kernel⟩
theorem ca_L_132 : VI RL 132 mX8_mark 1 8 := ⟨kiX8_mark, GW_of (i := 1083) (by decide +kernel) rfl, GW_of (i := 1084) (by decide +kernel) rfl, GW_of (i := 1085) (by decide +kernel) rfl, TX8, 34, rfl⟩
theorem ca_L_133 : WI RL 133 mL_owner 3 := ⟨by decide, GW_of (i := 495) (by decide +kernel) rfl, GW_of (i := 43) (by decide +kernel) rfl, ⟨by decide +kernel, by decide +kernel⟩, GW_of (i := 493) (by decide +kernel) rfl, GW_of (i := 494) (by decide +kernel) rfl, by decide +kernel⟩
theorem ca_L_135 : VI RL 135 mX8_owner 1 8 := ⟨kiX8_owner, GW_of (i := 1087) (by decide +kernel) rfl, GW_of (i := 1088) (by decide +kernel) rfl, GW_of (i := 1089) (by decide +kernel) rfl, TX8, 34, rfl⟩
theorem ca_L_136 : WI RL 136 mL_begin 5 := ⟨by decide, GW_of (i := 502) (by decide +kernel) rfl, GW_of (i := 43) (by decide +kernel) rfl, ⟨by decide +kernel, by decide +kernel⟩, GW_of (i := 500) (by decide +kernel) rfl, GW_of (i := 501) (by decide +kernel) rfl, by decide +kernel⟩
theorem ca_L_138 : VI RL 138 mX8_begin 3 8 := ⟨kiX8_begin, GW_of (i := 1091) (by decide +kernel) rfl, GW_of (i := 1092) (by decide +kernel) rfl, GW_of (i := 1093) (by decide +kernel) rfl, TX8, 34, rfl⟩
theorem ca_L_139 : WI RL 139 mL_change 4 := ⟨by decide, GW_of (i := 526) (by decide +kernel) rfl, GW_of (i := 43) (by decide +kernel) rfl, ⟨by decide +kernel, by decide +kernel⟩, GW_of (i := 524) (by decide +kernel) rfl, GW_of (i := 525) (by decide +kernel) rfl, by decide +kernel⟩
theorem ca_L_142 : VI RL 142 mX8_change 2 8 := ⟨kiX8_change, GW_of (i := 1114) (by decide +kernel) rfl, GW_of (i := 1115) (by decide +kernel) rfl, GW_of (i := 1116) (by decide +kernel) rfl, TX8, 34, rfl⟩
theorem ca_L_143 : WI RL 143 mL_allez 2 := ⟨by decide, GW_of (i := 548) (by decide +kernel) rfl, GW_of (i := 43) (by decide +kernel) rfl, ⟨by decide +kernel, by decide +kernel⟩, GW_of (i := 546) (by decide +kernel) rfl, GW_of (i := 547) (by decide +kernel) rfl, by decide +kernel⟩
theorem ca_L_145 : VI RL 145 mX8_allez 0 8 := ⟨kiX8_allez, GW_of (i := 1121) (by decide +kernel) rfl, GW_of (i := 1122) (by decide +kernel) rfl, GW_of (i := 1123) (by decide +kernel) rfl, TX8, 34, rfl⟩
theorem ca_L_146 : WI RL 146 mL_contact 5 := ⟨by decide, GW_of (i := 596) (by decide +kernel) rfl, GW_of (i := 43) (by decide +kernel) rfl, ⟨by decide +kernel, by decide +kernel⟩, GW_of (i := 594) (by decide +kernel) rfl, GW_of (i := 595) (by decide +kernel) rfl, by decide +kernel⟩
theorem ca_L_149 : VI RL 149 mX8_contact 3 8 := ⟨kiX8_contact, GW_of (i := 1125) (by decide +kernel) rfl, GW_of (i := 1126) (by decide +kernel) rfl, GW_of (i := 1127) (by decide +kernel) rfl, TX8, 34, rfl⟩
theorem ca_L_150 : WI RL 150 mL_right 4 := ⟨by decide, GW_of (i := 623) (by decide +kernel) rfl, GW_of (i := 43) (by decide +kernel) rfl, ⟨by decide +kernel, by decide +kernel⟩, GW_of (i := 621) (by decide +kernel) rfl, GW_of (i := 622) (by decide +kernel) rfl, by decide +kernel⟩
theorem ca_L_152 : VI RL 152 mX8_right 2 8 := ⟨kiX8_right, GW_of (i := 1145) (by decide +kernel) rfl, GW_of (i := 1146) (by decide +kernel) rfl, GW_of (i := 1147) (by decide +kernel) rfl, TX8, 34, rfl⟩
theorem ca_L_153 : WI RL 153 mL_halt 2 := ⟨by decide, GW_of (i := 634) (by decide +kernel) rfl, GW_of (i := 43) (by decide +kernel) rfl, ⟨by decide +kernel, by decide +kernel⟩, GW_of (i := 632) (by decide +kernel) rfl, GW_of (i := 633) (by decide +kernel) rfl, by decide +kernel⟩
theorem ca_L_155 : VI RL 155 mX8_halt 0 8 := ⟨kiX8_halt, GW_of (i := 1149) (by decide +kernel) rfl, GW_of (i := 1150) (by decide +kernel) rfl, GW_of (i := 1151) (by decide +kernel) rfl, TX8, 34, rfl⟩
theorem ca_L_156 : WI RL 156 mL_appeal 4 := ⟨by decide, GW_of (i := 672) (by decide +kernel) rfl, GW_of (i := 43) (by decide +kernel) rfl, ⟨by decide +kernel, by decide +kernel⟩, GW_of (i := 670) (by decide +kernel) rfl, GW_of (i := 671) (by decide +kernel) rfl, by decide +kernel⟩
theorem ca_L_158 : VI RL 158 mX8_appeal 2 8 := ⟨kiX8_appeal, GW_of (i := 1153) (by decide +kernel) rfl, GW_of (i := 1154) (by decide +kernel) rfl, GW_of (i := 1155) (by decide +kernel) rfl, TX8, 34, rfl⟩
theorem ca_L_159 : VI RL 159 mX7_piste 0 7 := ⟨kiX7_piste, GW_of (i := 186) (by decide +kernel) rfl, GW_of (i := 187) (by decide +kernel) rfl, GW_of (i := 188) (by decide +kernel) rfl, TX7, 10, rfl⟩
theorem ca_L_162 : VI RL 162 mX8_piste 0 8 := ⟨kiX8_piste, GW_of (i := 1157) (by decide +kernel) rfl, GW_of (i := 1158) (by decide +kernel) rfl, GW_of (i := 1159) (by decide +kernel) rfl, TX8, 34, rfl⟩
theorem ca_L_163 : VI RL 163 mX7_isFencing 0 7 := ⟨kiX7_isFencing, GW_of (i := 190) (by decide +kernel) rfl, GW_of (i := 191) (by decide +kernel) rfl, GW_of (i := 192) (by decide +kernel) rfl, TX7, 10, rfl⟩
theorem ca_L_167 : VI RL 167 mX8_isFencing 0 8 := ⟨kiX8_isFencing, GW_of (i := 1161) (by decide +kernel) rfl, GW_of (i := 1162) (by decide +kernel) rfl, GW_of (i := 1163) (by decide +kernel) rfl, TX8, 34, rfl⟩
theorem ca_L_168 : WI RL 168 mL_weaponOf 3 := ⟨by decide, GW_of (i := 696) (by decide +kernel) rfl, GW_of (i := 43) (by decide +kernel) rfl, ⟨by decide +kernel, by decide +kernel⟩, GW_of (i := 694) (by decide +kernel) rfl, GW_of (i := 695) (by decide +kernel) rfl, by decide +kernel⟩
theorem ca_L_170 : VI RL 170 mX8_weaponOf 1 8 := ⟨kiX8_weaponOf, GW_of (i := 1165) (by decide +kernel) rfl, GW_of (i := 1166) (by decide +kernel) rfl, GW_of (i := 1167) (by decide +kernel) rfl, TX8, 34, rfl⟩
theorem ca_L_171 : WI RL 171 mL_fencerOf 4 := ⟨by decide, GW_of (i := 703) (by decide +kernel) rfl, GW_of (i := 43) (by decide +kernel) rfl, ⟨by decide +kernel, by decide +kernel⟩, GW_of (i := 701) (by decide +kernel) rfl, GW_of (i := 702) (by decide +kernel) rfl, by decide +kernel⟩
theorem ca_L_173 : VI RL 173 mX8_fencerOf 2 8 := ⟨kiX8_fencerOf, GW_of (i := 1169) (by decide +kernel) rfl, GW_of (i := 1170) (by decide +kernel) rfl, GW_of (i := 1171) (by decide +kernel) rfl, TX8, 34, rfl⟩
theorem ca_L_174 : WI RL 174 mL_score 4 := ⟨by decide, GW_of (i := 711) (by decide +kernel) rfl, GW_of (i := 43) (by decide +kernel) rfl, ⟨by decide +kernel, by decide +kernel⟩, GW_of (i := 709) (by decide +kernel) rfl, GW_of (i := 710) (by decide +kernel) rfl, by decide +kernel⟩
theorem ca_L_176 : VI RL 176 mX8_score 2 8 := ⟨kiX8_score, GW_of (i := 1173) (by decide +kernel) rfl, GW_of (i := 1174) (by decide +kernel) rfl, GW_of (i := 1175) (by decide +kernel) rfl, TX8, 34, rfl⟩
theorem ca_L_177 : WI RL 177 mL_scoreAnew 4 := ⟨by decide, GW_of (i := 722) (by decide +kernel) rfl, GW_of (i := 43) (by decide +kernel) rfl, ⟨by decide +kernel, by decide +kernel⟩, GW_of (i := 720) (by decide +kernel) rfl, GW_of (i := 721) (by decide +kernel) rfl, by decide +kernel⟩
theorem ca_L_179 : VI RL 179 mX8_scoreAnew 2 8 := ⟨kiX8_scoreAnew, GW_of (i := 1177) (by decide +kernel) rfl, GW_of (i := 1178) (by decide +kernel) rfl, GW_of (i := 1179) (by decide +kernel) rfl, TX8, 34, rfl⟩
theorem ca_L_180 : WI RL 180 mL_winner 3 := ⟨by decide, GW_of (i := 734) (by decide +kernel) rfl, GW_of (i := 43) (by decide +kernel) rfl, ⟨by decide +kernel, by decide +kernel⟩, GW_of (i := 732) (by decide +kernel) rfl, GW_of (i := 733) (by decide +kernel) rfl, by decide +kernel⟩
theorem ca_L_182 : VI RL 182 mX8_winner 1 8 := ⟨kiX8_winner, GW_of (i := 1182) (by decide +kernel) rfl, GW_of (i := 1183) (by decide +kernel) rfl, GW_of (i := 1184) (by decide +kernel) rfl, TX8, 34, rfl⟩
theorem ca_L_183 : WI RL 183 mL_phrases 3 := ⟨by decide, GW_of (i := 744) (by decide +kernel) rfl, GW_of (i := 43) (by decide +kernel) rfl, ⟨by decide +kernel, by decide +kernel⟩, GW_of (i := 742) (by decide +kernel) rfl, GW_of (i := 743) (by decide +kernel) rfl, by decide +kernel⟩
theorem ca_L_185 : VI RL 185 mX8_phrases 1 8 := ⟨kiX8_phrases, GW_of (i := 1186) (by decide +kernel) rfl, GW_of (i := 1187) (by decide +kernel) rfl, GW_of (i := 1188) (by decide +kernel) rfl, TX8, 34, rfl⟩
theorem ca_L_186 : WI RL 186 mL_touches 4 := ⟨by decide, GW_of (i := 751) (by decide +kernel) rfl, GW_of (i := 43) (by decide +kernel) rfl, ⟨by decide +kernel, by decide +kernel⟩, GW_of (i := 749) (by decide +kernel) rfl, GW_of (i := 750) (by decide +kernel) rfl, by decide +kernel⟩
theorem ca_L_188 : VI RL 188 mX8_touches 2 8 := ⟨kiX8_touches, GW_of (i := 1190) (by decide +kernel) rfl, GW_of (i := 1191) (by decide +kernel) rfl, GW_of (i := 1192) (by decide +kernel) rfl, TX8, 34, rfl⟩
theorem ca_L_189 : WI RL 189 mL_appeals 4 := ⟨by decide, GW_of (i := 759) (by decide +kernel) rfl, GW_of (i := 43) (by decide +kernel) rfl, ⟨by decide +kernel, by decide +kernel⟩, GW_of (i := 757) (by decide +kernel) rfl, GW_of (i := 758) (by decide +kernel) rfl, by decide +kernel⟩
theorem ca_L_191 : VI RL 191 mX8_appeals 2 8 := ⟨kiX8_appeals, GW_of (i := 1194) (by decide +kernel) rfl, GW_of (i := 1195) (by decide +kernel) rfl, GW_of (i := 1196) (by decide +kernel) rfl, TX8, 34, rfl⟩
theorem ca_L_192 : WI RL 192 mL_drawPools 3 := ⟨by decide, GW_of (i := 766) (by decide +kernel) rfl, GW_of (i := 43) (by decide +kernel) rfl, ⟨by decide +kernel, by decide +kernel⟩, GW_of (i := 764) (by decide +kernel) rfl, GW_of (i := 765) (by decide +kernel) rfl, by decide +kernel⟩
theorem ca_L_194 : VI RL 194 mX8_drawPools 1 8 := ⟨kiX8_drawPools, GW_of (i := 1198) (by decide +kernel) rfl, GW_of (i := 1199) (by decide +kernel) rfl, GW_of (i := 1200) (by decide +kernel) rfl, TX8, 34, rfl⟩
theorem ca_L_195 : VI RL 195 mX7_poolBouts 0 7 := ⟨kiX7_poolBouts, GW_of (i := 194) (by decide +kernel) rfl, GW_of (i := 195) (by decide +kernel) rfl, GW_of (i := 196) (by decide +kernel) rfl, TX7, 10, rfl⟩
theorem ca_L_198 : VI RL 198 mX8_poolBouts 0 8 := ⟨kiX8_poolBouts, GW_of (i := 1202) (by decide +kernel) rfl, GW_of (i := 1203) (by decide +kernel) rfl, GW_of (i := 1204) (by decide +kernel) rfl, TX8, 34, rfl⟩
theorem ca_L_199 : WI RL 199 mL_won 3 := ⟨by decide, GW_of (i := 821) (by decide +kernel) rfl, GW_of (i := 43) (by decide +kernel) rfl, ⟨by decide +kernel, by decide +kernel⟩, GW_of (i := 819) (by decide +kernel) rfl, GW_of (i := 820) (by decide +kernel) rfl, by decide +kernel⟩
theorem ca_L_201 : VI RL 201 mX8_won 1 8 := ⟨kiX8_won, GW_of (i := 1206) (by decide +kernel) rfl, GW_of (i := 1207) (by decide +kernel) rfl, GW_of (i := 1208) (by decide +kernel) rfl, TX8, 34, rfl⟩
theorem ca_L_202 : WI RL 202 mL_index 3 := ⟨by decide, GW_of (i := 845) (by decide +kernel) rfl, GW_of (i := 43) (by decide +kernel) rfl, ⟨by decide +kernel, by decide +kernel⟩, GW_of (i := 843) (by decide +kernel) rfl, GW_of (i := 844) (by decide +kernel) rfl, by decide +kernel⟩
theorem ca_L_204 : VI RL 204 mX8_index 1 8 := ⟨kiX8_index, GW_of (i := 1218) (by decide +kernel) rfl, GW_of (i := 1219) (by decide +kernel) rfl, GW_of (i := 1220) (by decide +kernel) rfl, TX8, 34, rfl⟩
theorem ca_L_205 : WI RL 205 mL_rankedAt 3 := ⟨by decide, GW_of (i := 856) (by decide +kernel) rfl, GW_of (i := 43) (by decide +kernel) rfl, ⟨by decide +kernel, by decide +kernel⟩, GW_of (i := 854) (by decide +kernel) rfl, GW_of (i := 855) (by decide +kernel) rfl, by decide +kernel⟩
theorem ca_L_207 : VI RL 207 mX8_rankedAt 1 8 := ⟨kiX8_rankedAt, GW_of (i := 1222) (by decide +kernel) rfl, GW_of (i := 1223) (by decide +kernel) rfl, GW_of (i := 1224) (by decide +kernel) rfl, TX8, 34, rfl⟩
theorem ca_L_208 : WI RL 208 mL_drawTableau 2 := ⟨by decide, GW_of (i := 880) (by decide +kernel) rfl, GW_of (i := 43) (by decide +kernel) rfl, ⟨by decide +kernel, by decide +kernel⟩, GW_of (i := 878) (by decide +kernel) rfl, GW_of (i := 879) (by decide +kernel) rfl, by decide +kernel⟩
theorem ca_L_210 : VI RL 210 mX8_drawTableau 0 8 := ⟨kiX8_drawTableau, GW_of (i := 1234) (by decide +kernel) rfl, GW_of (i := 1235) (by decide +kernel) rfl, GW_of (i := 1236) (by decide +kernel) rfl, TX8, 34, rfl⟩
theorem ca_L_211 : VI RL 211 mX7_size 0 7 := ⟨kiX7_size, GW_of (i := 198) (by decide +kernel) rfl, GW_of (i := 199) (by decide +kernel) rfl, GW_of (i := 200) (by decide +kernel) rfl, TX7, 10, rfl⟩
theorem ca_L_214 : VI RL 214 mX8_size 0 8 := ⟨kiX8_size, GW_of (i := 1242) (by decide +kernel) rfl, GW_of (i := 1243) (by decide +kernel) rfl, GW_of (i := 1244) (by decide +kernel) rfl, TX8, 34, rfl⟩
theorem ca_L_215 : WI RL 215 mL_nodeWinner 3 := ⟨by decide, GW_of (i := 907) (by decide +kernel) rfl, GW_of (i := 43) (by decide +kernel) rfl, ⟨by decide +kernel, by decide +kernel⟩, GW_of (i := 905) (by decide +kernel) rfl, GW_of (i := 906) (by decide +kernel) rfl, by decide +kernel⟩
theorem ca_L_217 : VI RL 217 mX8_nodeWinner 1 8 := ⟨kiX8_nodeWinner, GW_of (i := 1246) (by decide +kernel) rfl, GW_of (i := 1247) (by decide +kernel) rfl, GW_of (i := 1248) (by decide +kernel) rfl, TX8, 34, rfl⟩
theorem ca_L_218 : VI RL 218 mX7_gone 0 7 := ⟨kiX7_gone, GW_of (i := 202) (by decide +kernel) rfl, GW_of (i := 203) (by decide +kernel) rfl, GW_of (i := 204) (by decide +kernel) rfl, TX7, 10, rfl⟩
theorem ca_L_221 : VI RL 221 mX8_gone 0 8 := ⟨kiX8_gone, GW_of (i := 1250) (by decide +kernel) rfl, GW_of (i := 1251) (by decide +kernel) rfl, GW_of (i := 1252) (by decide +kernel) rfl, TX8, 34, rfl⟩
theorem ca_L_27 : VI RL 27 mX7_mark 1 7 := ⟨kiX7_mark, GW_of (i := 489) (by decide +kernel) rfl, GW_of (i := 490) (by decide +kernel) rfl, GW_of (i := 491) (by decide +kernel) rfl, TX7, 10, rfl⟩
theorem ca_L_96 : VI RL 96 mX7_nodeWinner 1 7 := ⟨kiX7_nodeWinner, GW_of (i := 908) (by decide +kernel) rfl, GW_of (i := 909) (by decide +kernel) rfl, GW_of (i := 910) (by decide +kernel) rfl, TX7, 10, rfl⟩
theorem ca_L_30 : VI RL 30 mX7_owner 1 7 := ⟨kiX7_owner, GW_of (i := 496) (by decide +kernel) rfl, GW_of (i := 497) (by decide +kernel) rfl, GW_of (i := 498) (by decide +kernel) rfl, TX7, 10, rfl⟩
theorem ca_L_72 : VI RL 72 mX7_phrases 1 7 := ⟨kiX7_phrases, GW_of (i := 745) (by decide +kernel) rfl, GW_of (i := 746) (by decide +kernel) rfl, GW_of (i := 747) (by decide +kernel) rfl, TX7, 10, rfl⟩
theorem ca_L_90 : VI RL 90 mX7_rankedAt 1 7 := ⟨kiX7_rankedAt, GW_of (i := 857) (by decide +kernel) rfl, GW_of (i := 858) (by decide +kernel) rfl, GW_of (i := 859) (by decide +kernel) rfl, TX7, 10, rfl⟩
theorem ca_L_48 : VI RL 48 mX7_right 2 7 := ⟨kiX7_right, GW_of (i := 624) (by decide +kernel) rfl, GW_of (i := 625) (by decide +kernel) rfl, GW_of (i := 626) (by decide +kernel) rfl, TX7, 10, rfl⟩
theorem ca_L_63 : VI RL 63 mX7_score 2 7 := ⟨kiX7_score, GW_of (i := 712) (by decide +kernel) rfl, GW_of (i := 713) (by decide +kernel) rfl, GW_of (i := 714) (by decide +kernel) rfl, TX7, 10, rfl⟩
theorem ca_L_66 : VI RL 66 mX7_scoreAnew 2 7 := ⟨kiX7_scoreAnew, GW_of (i := 723) (by decide +kernel) rfl, GW_of (i := 724) (by decide +kernel) rfl, GW_of (i := 725) (by decide +kernel) rfl, TX7, 10, rfl⟩
theorem ca_L_21 : VI RL 21 mX7_test 3 7 := ⟨kiX7_test, GW_of (i := 366) (by decide +kernel) rfl, GW_of (i := 367) (by decide +kernel) rfl, GW_of (i := 368) (by decide +kernel) rfl, TX7, 10, rfl⟩
theorem ca_L_75 : VI RL 75 mX7_touches 2 7 := ⟨kiX7_touches, GW_of (i := 752) (by decide +kernel) rfl, GW_of (i := 753) (by decide +kernel) rfl, GW_of (i := 754) (by decide +kernel) rfl, TX7, 10, rfl⟩
theorem ca_L_15 : VI RL 15 mX7_weapon 1 7 := ⟨kiX7_weapon, GW_of (i := 315) (by decide +kernel) rfl, GW_of (i := 316) (by decide +kernel) rfl, GW_of (i := 317) (by decide +kernel) rfl, TX7, 10, rfl⟩
theorem ca_L_57 : VI RL 57 mX7_weaponOf 1 7 := ⟨kiX7_weaponOf, GW_of (i := 697) (by decide +kernel) rfl, GW_of (i := 698) (by decide +kernel) rfl, GW_of (i := 699) (by decide +kernel) rfl, TX7, 10, rfl⟩
theorem ca_L_69 : VI RL 69 mX7_winner 1 7 := ⟨kiX7_winner, GW_of (i := 735) (by decide +kernel) rfl, GW_of (i := 736) (by decide +kernel) rfl, GW_of (i := 737) (by decide +kernel) rfl, TX7, 10, rfl⟩
theorem ca_L_84 : VI RL 84 mX7_won 1 7 := ⟨kiX7_won, GW_of (i := 822) (by decide +kernel) rfl, GW_of (i := 823) (by decide +kernel) rfl, GW_of (i := 824) (by decide +kernel) rfl, TX7, 10, rfl⟩
theorem ca_X0_82 : VI RX0 82 mX0_winningSide 0 0 := ⟨kiX0_winningSide, GW_of (i := 461) (by decide +kernel) rfl, GW_of (i := 462) (by decide +kernel) rfl, GW_of (i := 463) (by decide +kernel) rfl, TX0, 8, rfl⟩
theorem ca_X0_41 : VI RX0 41 mX5_restart 1 5 := ⟨kiX5_restart, GW_of (i := 404) (by decide +kernel) rfl, GW_of (i := 405) (by decide +kernel) rfl, GW_of (i := 406) (by decide +kernel) rfl, TX5, 3, rfl⟩
theorem ca_X0_61 : VI RX0 61 mX0_phraseAt 1 0 := ⟨kiX0_phraseAt, GW_of (i := 408) (by decide +kernel) rfl, GW_of (i := 409) (by decide +kernel) rfl, GW_of (i := 410) (by decide +kernel) rfl, TX0, 8, rfl⟩
theorem ca_X0_72 : VI RX0 72 mX2_judge 0 2 := ⟨kiX2_judge, GW_of (i := 731) (by decide +kernel) rfl, GW_of (i := 641) (by decide +kernel) rfl, GW_of (i := 642) (by decide +kernel) rfl, TX2, 10, rfl⟩
theorem ca_X0_57 : VI RX0 57 mX2_withoutStruck 2 2 := ⟨kiX2_withoutStruck, GW_of (i := 416) (by decide +kernel) rfl, GW_of (i := 417) (by decide +kernel) rfl, GW_of (i := 418) (by decide +kernel) rfl, TX2, 10, rfl⟩
theorem ca_X0_69 : VI RX0 69 mX5_add 1 5 := ⟨kiX5_add, GW_of (i := 424) (by decide +kernel) rfl, GW_of (i := 425) (by decide +kernel) rfl, GW_of (i := 426) (by decide +kernel) rfl, TX5, 3, rfl⟩
theorem ca_X0_26 : IN RX0 26 mX5_init 0 "PisteLine" := ⟨kiX5_init, EW_of (i := 785) (by decide +kernel) rfl, GW_of (i := 135) (by decide +kernel) rfl, rfl⟩
theorem ca_X0_48 : VI RX0 48 mX0_recount 0 0 := ⟨kiX0_recount, GW_of (i := 668) (by decide +kernel) rfl, GW_of (i := 401) (by decide +kernel) rfl, GW_of (i := 402) (by decide +kernel) rfl, TX0, 8, rfl⟩
theorem ca_X0_65 : VI RX0 65 mX0_touchesLeft 1 0 := ⟨kiX0_touchesLeft, GW_of (i := 412) (by decide +kernel) rfl, GW_of (i := 413) (by decide +kernel) rfl, GW_of (i := 414) (by decide +kernel) rfl, TX0, 8, rfl⟩
theorem ca_X0_85 : VI RX0 85 mX0_fencerAt 1 0 := ⟨kiX0_fencerAt, GW_of (i := 466) (by decide +kernel) rfl, GW_of (i := 467) (by decide +kernel) rfl, GW_of (i := 468) (by decide +kernel) rfl, TX0, 8, rfl⟩
theorem ca_X0_76 : VI RX0 76 mX5_isAtGoal 0 5 := ⟨kiX5_isAtGoal, GW_of (i := 465) (by decide +kernel) rfl, GW_of (i := 429) (by decide +kernel) rfl, GW_of (i := 430) (by decide +kernel) rfl, TX5, 3, rfl⟩
theorem ca_X1_31 : VI RX1 31 mX1_difference 0 1 := ⟨kiX1_difference, GW_of (i := 877) (by decide +kernel) rfl, GW_of (i := 851) (by decide +kernel) rfl, GW_of (i := 852) (by decide +kernel) rfl, TX1, 5, rfl⟩
theorem ca_X2_72 : VI RX2 72 mX2_isALight 1 2 := ⟨kiX2_isALight, GW_of (i := 648) (by decide +kernel) rfl, GW_of (i := 650) (by decide +kernel) rfl, GW_of (i := 10) (by decide +kernel) rfl, TX2, 10, rfl⟩
theorem ca_X2_39 : VI RX2 39 mX2_isFull 0 2 := ⟨kiX2_isFull, GW_of (i := 620) (by decide +kernel) rfl, GW_of (i := 612) (by decide +kernel) rfl, GW_of (i := 613) (by decide +kernel) rfl, TX2, 10, rfl⟩
theorem ca_X2_53 : VI RX2 53 mX2_firstLight 0 2 := ⟨kiX2_firstLight, GW_of (i := 644) (by decide +kernel) rfl, GW_of (i := 646) (by decide +kernel) rfl, GW_of (i := 9) (by decide +kernel) rfl, TX2, 10, rfl⟩
theorem ca_X2_56 : VI RX2 56 mX2_otherLight 1 2 := ⟨kiX2_otherLight, GW_of (i := 652) (by decide +kernel) rfl, GW_of (i := 654) (by decide +kernel) rfl, GW_of (i := 11) (by decide +kernel) rfl, TX2, 10, rfl⟩
theorem ca_X2_60 : VI RX2 60 mX2_touchOf 1 2 := ⟨kiX2_touchOf, GW_of (i := 656) (by decide +kernel) rfl, GW_of (i := 658) (by decide +kernel) rfl, GW_of (i := 12) (by decide +kernel) rfl, TX2, 10, rfl⟩
theorem ca_X2_63 : VI RX2 63 mX2_rightAt 1 2 := ⟨kiX2_rightAt, GW_of (i := 660) (by decide +kernel) rfl, GW_of (i := 662) (by decide +kernel) rfl, GW_of (i := 13) (by decide +kernel) rfl, TX2, 10, rfl⟩
theorem ca_X2_46 : VI RX2 46 mX2_judge 0 2 := ⟨kiX2_judge, GW_of (i := 689) (by decide +kernel) rfl, GW_of (i := 641) (by decide +kernel) rfl, GW_of (i := 642) (by decide +kernel) rfl, TX2, 10, rfl⟩
theorem ca_X2_66 : VI RX2 66 mX6_isFalse 1 6 := ⟨kiX6_isFalse, GW_of (i := 420) (by decide +kernel) rfl, GW_of (i := 421) (by decide +kernel) rfl, GW_of (i := 422) (by decide +kernel) rfl, TX6, 4, rfl⟩
theorem ca_X3_34 : VI RX3 34 mX3_take 4 3 := ⟨kiX3_take, GW_of (i := 482) (by decide +kernel) rfl, GW_of (i := 483) (by decide +kernel) rfl, GW_of (i := 484) (by decide +kernel) rfl, TX3, 6, rfl⟩
theorem ca_X4_73 : VI RX4 73 mX0_forget 0 0 := ⟨kiX0_forget, GW_of (i := 474) (by decide +kernel) rfl, GW_of (i := 475) (by decide +kernel) rfl, GW_of (i := 476) (by decide +kernel) rfl, TX0, 8, rfl⟩
theorem ca_X4_82 : VI RX4 82 mX3_empty 0 3 := ⟨kiX3_empty, GW_of (i := 478) (by decide +kernel) rfl, GW_of (i := 479) (by decide +kernel) rfl, GW_of (i := 480) (by decide +kernel) rfl, TX3, 6, rfl⟩
theorem ca_X4_32 : II RX4 32 mX0_init 3 := ⟨kiX0_init, GW_of (i := 896) (by decide +kernel) rfl, GW_of (i := 779) (by decide +kernel) rfl, rfl⟩
theorem ca_X4_35 : VI RX4 35 mX4_laySeeds 0 4 := ⟨kiX4_laySeeds, GW_of (i := 897) (by decide +kernel) rfl, GW_of (i := 899) (by decide +kernel) rfl, GW_of (i := 20) (by decide +kernel) rfl, TX4, 5, rfl⟩
theorem ca_X4_38 : VI RX4 38 mX4_boutAt 1 4 := ⟨kiX4_boutAt, GW_of (i := 436) (by decide +kernel) rfl, GW_of (i := 437) (by decide +kernel) rfl, GW_of (i := 438) (by decide +kernel) rfl, TX4, 5, rfl⟩
theorem ca_X4_42 : VI RX4 42 mX0_recount 0 0 := ⟨kiX0_recount, GW_of (i := 440) (by decide +kernel) rfl, GW_of (i := 401) (by decide +kernel) rfl, GW_of (i := 402) (by decide +kernel) rfl, TX0, 8, rfl⟩
theorem ca_X4_28 : VI RX4 28 mX4_hasNode 1 4 := ⟨kiX4_hasNode, GW_of (i := 445) (by decide +kernel) rfl, GW_of (i := 446) (by decide +kernel) rfl, GW_of (i := 447) (by decide +kernel) rfl, TX4, 5, rfl⟩
theorem ca_X4_45 : VI RX4 45 mX4_winnerAt 1 4 := ⟨kiX4_winnerAt, GW_of (i := 449) (by decide +kernel) rfl, GW_of (i := 450) (by decide +kernel) rfl, GW_of (i := 451) (by decide +kernel) rfl, TX4, 5, rfl⟩
theorem ca_X4_55 : VI RX4 55 mX4_winnerNow 2 4 := ⟨kiX4_winnerNow, GW_of (i := 453) (by decide +kernel) rfl, GW_of (i := 455) (by decide +kernel) rfl, GW_of (i := 5) (by decide +kernel) rfl, TX4, 5, rfl⟩
theorem ca_X4_59 : VI RX4 59 mX4_drop 2 4 := ⟨kiX4_drop, GW_of (i := 470) (by decide +kernel) rfl, GW_of (i := 472) (by decide +kernel) rfl, GW_of (i := 6) (by decide +kernel) rfl, TX4, 5, rfl⟩
theorem ca_X4_63 : VI RX4 63 mX0_winningFencer 0 0 := ⟨kiX0_winningFencer, GW_of (i := 457) (by decide +kernel) rfl, GW_of (i := 458) (by decide +kernel) rfl, GW_of (i := 459) (by decide +kernel) rfl, TX0, 8, rfl⟩
theorem ca_X5_21 : VI RX5 21 mX5_isAtGoal 0 5 := ⟨kiX5_isAtGoal, GW_of (i := 428) (by decide +kernel) rfl, GW_of (i := 429) (by decide +kernel) rfl, GW_of (i := 430) (by decide +kernel) rfl, TX5, 3, rfl⟩
theorem ca_X7_120 : VI RX7 120 mX0_canBeFenced 0 0 := ⟨kiX0_canBeFenced, GW_of (i := 513) (by decide +kernel) rfl, GW_of (i := 514) (by decide +kernel) rfl, GW_of (i := 515) (by decide +kernel) rfl, TX0, 8, rfl⟩
theorem ca_X7_176 : II RX7 176 mX2_init 3 := ⟨kiX2_init, GW_of (i := 556) (by decide +kernel) rfl, GW_of (i := 557) (by decide +kernel) rfl, rfl⟩
theorem ca_X7_144 : SI RX7 144 mX7_isSide 1 := ⟨kiX7_isSide, GW_of (i := 531) (by decide +kernel) rfl, GW_of (i := 532) (by decide +kernel) rfl⟩
theorem ca_X7_198 : SI RX7 198 mX7_isSideOrNone 1 := ⟨kiX7_isSideOrNone, GW_of (i := 628) (by decide +kernel) rfl, GW_of (i := 629) (by decide +kernel) rfl⟩
theorem ca_X7_231 : VI RX7 231 mX0_phraseAt 1 0 := ⟨kiX0_phraseAt, GW_of (i := 679) (by decide +kernel) rfl, GW_of (i := 409) (by decide +kernel) rfl, GW_of (i := 410) (by decide +kernel) rfl, TX0, 8, rfl⟩
theorem ca_X7_235 : VI RX7 235 mX0_appealsLeft 1 0 := ⟨kiX0_appealsLeft, GW_of (i := 680) (by decide +kernel) rfl, GW_of (i := 681) (by decide +kernel) rfl, GW_of (i := 682) (by decide +kernel) rfl, TX0, 8, rfl⟩
theorem ca_X7_223 : VI RX7 223 mX0_touchesLeft 1 0 := ⟨kiX0_touchesLeft, GW_of (i := 669) (by decide +kernel) rfl, GW_of (i := 413) (by decide +kernel) rfl, GW_of (i := 414) (by decide +kernel) rfl, TX0, 8, rfl⟩
theorem ca_X7_240 : VI RX7 240 mX2_tellRight 1 2 := ⟨kiX2_tellRight, GW_of (i := 685) (by decide +kernel) rfl, GW_of (i := 686) (by decide +kernel) rfl, GW_of (i := 687) (by decide +kernel) rfl, TX2, 10, rfl⟩
theorem ca_X7_243 : VI RX7 243 mX0_useAppeal 1 0 := ⟨kiX0_useAppeal, GW_of (i := 690) (by decide +kernel) rfl, GW_of (i := 691) (by decide +kernel) rfl, GW_of (i := 692) (by decide +kernel) rfl, TX0, 8, rfl⟩
theorem ca_X7_246 : VI RX7 246 mX0_recount 0 0 := ⟨kiX0_recount, GW_of (i := 400) (by decide +kernel) rfl, GW_of (i := 401) (by decide +kernel) rfl, GW_of (i := 402) (by decide +kernel) rfl, TX0, 8, rfl⟩
theorem ca_X7_219 : VI RX7 219 mX4_settle 1 4 := ⟨kiX4_settle, GW_of (i := 441) (by decide +kernel) rfl, GW_of (i := 442) (by decide +kernel) rfl, GW_of (i := 443) (by decide +kernel) rfl, TX4, 5, rfl⟩
theorem ca_X7_114 : VI RX7 114 mX7_boutAt 1 7 := ⟨kiX7_boutAt, GW_of (i := 507) (by decide +kernel) rfl, GW_of (i := 509) (by decide +kernel) rfl, GW_of (i := 7) (by decide +kernel) rfl, TX7, 10, rfl⟩
theorem ca_X7_87 : VI RX7 87 mX7_weaponAt 1 7 := ⟨kiX7_weaponAt, GW_of (i := 370) (by decide +kernel) rfl, GW_of (i := 372) (by decide +kernel) rfl, GW_of (i := 3) (by decide +kernel) rfl, TX7, 10, rfl⟩
theorem ca_X7_128 : VI RX7 128 mX6_isMarkedFor 1 6 := ⟨kiX6_isMarkedFor, GW_of (i := 518) (by decide +kernel) rfl, GW_of (i := 519) (by decide +kernel) rfl, GW_of (i := 520) (by decide +kernel) rfl, TX6, 4, rfl⟩
theorem ca_X7_137 : VI RX7 137 mX3_take 4 3 := ⟨kiX3_take, GW_of (i := 523) (by decide +kernel) rfl, GW_of (i := 483) (by decide +kernel) rfl, GW_of (i := 484) (by decide +kernel) rfl, TX3, 6, rfl⟩
theorem ca_X7_334 : VI RX7 334 mX4_boutAt 1 4 := ⟨kiX4_boutAt, GW_of (i := 511) (by decide +kernel) rfl, GW_of (i := 437) (by decide +kernel) rfl, GW_of (i := 438) (by decide +kernel) rfl, TX4, 5, rfl⟩
theorem ca_X7_155 : VI RX7 155 mX0_fencerAt 1 0 := ⟨kiX0_fencerAt, GW_of (i := 536) (by decide +kernel) rfl, GW_of (i := 467) (by decide +kernel) rfl, GW_of (i := 468) (by decide +kernel) rfl, TX0, 8, rfl⟩
theorem ca_X7_160 : VI RX7 160 mX3_weaponNumber 1 3 := ⟨kiX3_weaponNumber, GW_of (i := 538) (by decide +kernel) rfl, GW_of (i := 539) (by decide +kernel) rfl, GW_of (i := 540) (by decide +kernel) rfl, TX3, 6, rfl⟩
theorem ca_X7_163 : VI RX7 163 mX3_arm 2 3 := ⟨kiX3_arm, GW_of (i := 542) (by decide +kernel) rfl, GW_of (i := 543) (by decide +kernel) rfl, GW_of (i := 544) (by decide +kernel) rfl, TX3, 6, rfl⟩
theorem ca_X7_181 : VI RX7 181 mX7_isTooEarly 1 7 := ⟨kiX7_isTooEarly, GW_of (i := 602) (by decide +kernel) rfl, GW_of (i := 604) (by decide +kernel) rfl, GW_of (i := 8) (by decide +kernel) rfl, TX7, 10, rfl⟩
theorem ca_X7_186 : VI RX7 186 mX2_isFull 0 2 := ⟨kiX2_isFull, GW_of (i := 611) (by decide +kernel) rfl, GW_of (i := 612) (by decide +kernel) rfl, GW_of (i := 613) (by decide +kernel) rfl, TX2, 10, rfl⟩
theorem ca_X7_191 : VI RX7 191 mX2_hear 3 2 := ⟨kiX2_hear, GW_of (i := 616) (by decide +kernel) rfl, GW_of (i := 617) (by decide +kernel) rfl, GW_of (i := 618) (by decide +kernel) rfl, TX2, 10, rfl⟩
theorem ca_X7_70 : VI RX7 70 mX7_fencerAt 1 7 := ⟨kiX7_fencerAt, GW_of (i := 319) (by decide +kernel) rfl, GW_of (i := 321) (by decide +kernel) rfl, GW_of (i := 2) (by decide +kernel) rfl, TX7, 10, rfl⟩
theorem ca_X7_345 : VI RX7 345 mX1_clear 0 1 := ⟨kiX1_clear, GW_of (i := 830) (by decide +kernel) rfl, GW_of (i := 831) (by decide +kernel) rfl, GW_of (i := 832) (by decide +kernel) rfl, TX1, 5, rfl⟩
theorem ca_X7_342 : VI RX7 342 mX0_winningSide 0 0 := ⟨kiX0_winningSide, GW_of (i := 834) (by decide +kernel) rfl, GW_of (i := 462) (by decide +kernel) rfl, GW_of (i := 463) (by decide +kernel) rfl, TX0, 8, rfl⟩
theorem ca_X7_348 : VI RX7 348 mX7_countSide 2 7 := ⟨kiX7_countSide, GW_of (i := 835) (by decide +kernel) rfl, GW_of (i := 837) (by decide +kernel) rfl, GW_of (i := 16) (by decide +kernel) rfl, TX7, 10, rfl⟩
theorem ca_X7_257 : VI RX7 257 mX5_of 1 5 := ⟨kiX5_of, GW_of (i := 716) (by decide +kernel) rfl, GW_of (i := 717) (by decide +kernel) rfl, GW_of (i := 718) (by decide +kernel) rfl, TX5, 3, rfl⟩
theorem ca_X7_352 : VI RX7 352 mX1_add 3 1 := ⟨kiX1_add, GW_of (i := 839) (by decide +kernel) rfl, GW_of (i := 840) (by decide +kernel) rfl, GW_of (i := 841) (by decide +kernel) rfl, TX1, 5, rfl⟩
theorem ca_X7_339 : II RX7 339 mX0_init 3 := ⟨kiX0_init, GW_of (i := 778) (by decide +kernel) rfl, GW_of (i := 779) (by decide +kernel) rfl, rfl⟩
theorem ca_X7_56 : VI RX7 56 mX7_arePoolsDrawn 0 7 := ⟨kiX7_arePoolsDrawn, GW_of (i := 217) (by decide +kernel) rfl, GW_of (i := 219) (by decide +kernel) rfl, GW_of (i := 0) (by decide +kernel) rfl, TX7, 10, rfl⟩
theorem ca_X7_281 : VI RX7 281 mX7_drawPool 2 7 := ⟨kiX7_drawPool, GW_of (i := 773) (by decide +kernel) rfl, GW_of (i := 775) (by decide +kernel) rfl, GW_of (i := 14) (by decide +kernel) rfl, TX7, 10, rfl⟩
theorem ca_X7_301 : VI RX7 301 mX7_isAPoolBoutOpen 0 7 := ⟨kiX7_isAPoolBoutOpen, GW_of (i := 885) (by decide +kernel) rfl, GW_of (i := 887) (by decide +kernel) rfl, GW_of (i := 19) (by decide +kernel) rfl, TX7, 10, rfl⟩
theorem ca_X7_306 : VI RX7 306 mX4_isDrawn 0 4 := ⟨kiX4_isDrawn, GW_of (i := 396) (by decide +kernel) rfl, GW_of (i := 397) (by decide +kernel) rfl, GW_of (i := 398) (by decide +kernel) rfl, TX4, 5, rfl⟩
theorem ca_X7_311 : VI RX7 311 mX3_empty 0 3 := ⟨kiX3_empty, GW_of (i := 891) (by decide +kernel) rfl, GW_of (i := 479) (by decide +kernel) rfl, GW_of (i := 480) (by decide +kernel) rfl, TX3, 6, rfl⟩
theorem ca_X7_314 : VI RX7 314 mX4_lay 1 4 := ⟨kiX4_lay, GW_of (i := 892) (by decide +kernel) rfl, GW_of (i := 893) (by decide +kernel) rfl, GW_of (i := 894) (by decide +kernel) rfl, TX4, 5, rfl⟩
theorem ca_X7_287 : VI RX7 287 mX7_countPools 0 7 := ⟨kiX7_countPools, GW_of (i := 826) (by decide +kernel) rfl, GW_of (i := 828) (by decide +kernel) rfl, GW_of (i := 15) (by decide +kernel) rfl, TX7, 10, rfl⟩
theorem ca_X7_298 : VI RX7 298 mX7_fencerInPlace 1 7 := ⟨kiX7_fencerInPlace, GW_of (i := 862) (by decide +kernel) rfl, GW_of (i := 864) (by decide +kernel) rfl, GW_of (i := 17) (by decide +kernel) rfl, TX7, 10, rfl⟩
theorem ca_X7_317 : VI RX7 317 mX4_seat 2 4 := ⟨kiX4_seat, GW_of (i := 901) (by decide +kernel) rfl, GW_of (i := 902) (by decide +kernel) rfl, GW_of (i := 903) (by decide +kernel) rfl, TX4, 5, rfl⟩
theorem ca_X7_338 : VI RX7 338 mX4_recount 0 4 := ⟨kiX4_recount, GW_of (i := 432) (by decide +kernel) rfl, GW_of (i := 433) (by decide +kernel) rfl, GW_of (i := 434) (by decide +kernel) rfl, TX4, 5, rfl⟩
theorem ca_X7_67 : II RX7 67 mX1_init 1 := ⟨kiX1_init, GW_of (i := 290) (by decide +kernel) rfl, GW_of (i := 291) (by decide +kernel) rfl, rfl⟩
theorem ca_X7_356 : VI RX7 356 mX7_fencersAhead 1 7 := ⟨kiX7_fencersAhead, GW_of (i := 866) (by decide +kernel) rfl, GW_of (i := 868) (by decide +kernel) rfl, GW_of (i := 18) (by decide +kernel) rfl, TX7, 10, rfl⟩
theorem ca_X7_360 : VI RX7 360 mX1_isAheadOf 1 1 := ⟨kiX1_isAheadOf, GW_of (i := 870) (by decide +kernel) rfl, GW_of (i := 871) (by decide +kernel) rfl, GW_of (i := 872) (by decide +kernel) rfl, TX1, 5, rfl⟩
theorem ca_X7_205 : VI RX7 205 mX2_judge 0 2 := ⟨kiX2_judge, GW_of (i := 640) (by decide +kernel) rfl, GW_of (i := 641) (by decide +kernel) rfl, GW_of (i := 642) (by decide +kernel) rfl, TX2, 10, rfl⟩
theorem ca_X7_212 : VI RX7 212 mX0_keep 1 0 := ⟨kiX0_keep, GW_of (i := 664) (by decide +kernel) rfl, GW_of (i := 665) (by decide +kernel) rfl, GW_of (i := 666) (by decide +kernel) rfl, TX0, 8, rfl⟩
theorem ca_X7_293 : VI RX7 293 mX1_difference 0 1 := ⟨kiX1_difference, GW_of (i := 850) (by decide +kernel) rfl, GW_of (i := 851) (by decide +kernel) rfl, GW_of (i := 852) (by decide +kernel) rfl, TX1, 5, rfl⟩
theorem ca_X7_29 : IN RX7 29 mX3_init 0 "PisteLine" := ⟨kiX3_init, EW_of (i := 76) (by decide +kernel) rfl, GW_of (i := 77) (by decide +kernel) rfl, rfl⟩
theorem ca_X7_36 : IN RX7 36 mX4_init 0 "PisteLine" := ⟨kiX4_init, EW_of (i := 108) (by decide +kernel) rfl, GW_of (i := 109) (by decide +kernel) rfl, rfl⟩
theorem ca_X7_43 : IN RX7 43 mX5_init 0 "PisteLine" := ⟨kiX5_init, EW_of (i := 134) (by decide +kernel) rfl, GW_of (i := 135) (by decide +kernel) rfl, rfl⟩
theorem ca_X7_331 : VI RX7 331 mX2_latestTime 0 2 := ⟨kiX2_latestTime, GW_of (i := 606) (by decide +kernel) rfl, GW_of (i := 607) (by decide +kernel) rfl, GW_of (i := 608) (by decide +kernel) rfl, TX2, 10, rfl⟩
theorem ca_X7_323 : VI RX7 323 mX4_hasNode 1 4 := ⟨kiX4_hasNode, GW_of (i := 912) (by decide +kernel) rfl, GW_of (i := 446) (by decide +kernel) rfl, GW_of (i := 447) (by decide +kernel) rfl, TX4, 5, rfl⟩
theorem ca_X7_272 : VI RX7 272 mX4_winnerAt 1 4 := ⟨kiX4_winnerAt, GW_of (i := 741) (by decide +kernel) rfl, GW_of (i := 450) (by decide +kernel) rfl, GW_of (i := 451) (by decide +kernel) rfl, TX4, 5, rfl⟩
theorem ca_X7_260 : VI RX7 260 mX0_countAnew 1 0 := ⟨kiX0_countAnew, GW_of (i := 727) (by decide +kernel) rfl, GW_of (i := 728) (by decide +kernel) rfl, GW_of (i := 729) (by decide +kernel) rfl, TX0, 8, rfl⟩
theorem ca_X7_107 : VI RX7 107 mX7_fail 1 7 := ⟨kiX7_fail, GW_of (i := 392) (by decide +kernel) rfl, GW_of (i := 394) (by decide +kernel) rfl, GW_of (i := 4) (by decide +kernel) rfl, TX7, 10, rfl⟩
theorem ca_X7_84 : II RX7 84 mX6_init 2 := ⟨kiX6_init, GW_of (i := 341) (by decide +kernel) rfl, GW_of (i := 342) (by decide +kernel) rfl, rfl⟩
theorem ca_X7_269 : VI RX7 269 mX0_winningFencer 0 0 := ⟨kiX0_winningFencer, GW_of (i := 740) (by decide +kernel) rfl, GW_of (i := 458) (by decide +kernel) rfl, GW_of (i := 459) (by decide +kernel) rfl, TX0, 8, rfl⟩
theorem ca_X8_155 : VI RX8 155 mX8_winnerOf 1 8 := ⟨kiX8_winnerOf, GW_of (i := 1103) (by decide +kernel) rfl, GW_of (i := 1105) (by decide +kernel) rfl, GW_of (i := 32) (by decide +kernel) rfl, TX8, 34, rfl⟩
theorem ca_X8_101 : VI RX8 101 mX8_goes 3 8 := ⟨kiX8_goes, GW_of (i := 1032) (by decide +kernel) rfl, GW_of (i := 1034) (by decide +kernel) rfl, GW_of (i := 21) (by decide +kernel) rfl, TX8, 34, rfl⟩
theorem ca_X8_164 : SI RX8 164 mX8_slotOf 1 := ⟨kiX8_slotOf, GW_of (i := 1111) (by decide +kernel) rfl, GW_of (i := 1112) (by decide +kernel) rfl⟩
theorem ca_X8_167 : SI RX8 167 mX8_isSide 1 := ⟨kiX8_isSide, GW_of (i := 1118) (by decide +kernel) rfl, GW_of (i := 1119) (by decide +kernel) rfl⟩
theorem ca_X8_85 : SI RX8 85 mX8_in 3 := ⟨kiX8_in, GW_of (i := 1044) (by decide +kernel) rfl, GW_of (i := 1045) (by decide +kernel) rfl⟩
theorem ca_X8_138 : VI RX8 138 mX8_touched 2 8 := ⟨kiX8_touched, GW_of (i := 1063) (by decide +kernel) rfl, GW_of (i := 1065) (by decide +kernel) rfl, GW_of (i := 26) (by decide +kernel) rfl, TX8, 34, rfl⟩
theorem ca_X8_115 : VI RX8 115 mX8_follows 0 8 := ⟨kiX8_follows, GW_of (i := 1055) (by decide +kernel) rfl, GW_of (i := 1057) (by decide +kernel) rfl, GW_of (i := 24) (by decide +kernel) rfl, TX8, 34, rfl⟩
theorem ca_X8_152 : VI RX8 152 mX8_isBout 1 8 := ⟨kiX8_isBout, GW_of (i := 1095) (by decide +kernel) rfl, GW_of (i := 1097) (by decide +kernel) rfl, GW_of (i := 30) (by decide +kernel) rfl, TX8, 34, rfl⟩
theorem ca_X8_145 : VI RX8 145 mX8_tells 1 8 := ⟨kiX8_tells, GW_of (i := 1059) (by decide +kernel) rfl, GW_of (i := 1061) (by decide +kernel) rfl, GW_of (i := 25) (by decide +kernel) rfl, TX8, 34, rfl⟩
theorem ca_X8_109 : VI RX8 109 mX8_isWeapon 1 8 := ⟨kiX8_isWeapon, GW_of (i := 1051) (by decide +kernel) rfl, GW_of (i := 1053) (by decide +kernel) rfl, GW_of (i := 23) (by decide +kernel) rfl, TX8, 34, rfl⟩
theorem ca_X8_149 : VI RX8 149 mX8_fencerAt 2 8 := ⟨kiX8_fencerAt, GW_of (i := 1099) (by decide +kernel) rfl, GW_of (i := 1101) (by decide +kernel) rfl, GW_of (i := 31) (by decide +kernel) rfl, TX8, 34, rfl⟩
theorem ca_X8_158 : VI RX8 158 mX8_isFit 3 8 := ⟨kiX8_isFit, GW_of (i := 1107) (by decide +kernel) rfl, GW_of (i := 1109) (by decide +kernel) rfl, GW_of (i := 33) (by decide +kernel) rfl, TX8, 34, rfl⟩
theorem ca_X8_174 : VI RX8 174 mX8_isTime 1 8 := ⟨kiX8_isTime, GW_of (i := 1129) (by decide +kernel) rfl, GW_of (i := 1131) (by decide +kernel) rfl, GW_of (i := 34) (by decide +kernel) rfl, TX8, 34, rfl⟩
theorem ca_X8_177 : VI RX8 177 mX8_hears 0 8 := ⟨kiX8_hears, GW_of (i := 1137) (by decide +kernel) rfl, GW_of (i := 1139) (by decide +kernel) rfl, GW_of (i := 36) (by decide +kernel) rfl, TX8, 34, rfl⟩
theorem ca_X8_181 : VI RX8 181 mX8_event 2 8 := ⟨kiX8_event, GW_of (i := 1141) (by decide +kernel) rfl, GW_of (i := 1143) (by decide +kernel) rfl, GW_of (i := 37) (by decide +kernel) rfl, TX8, 34, rfl⟩
theorem ca_X8_200 : VI RX8 200 mX8_areDecided 0 8 := ⟨kiX8_areDecided, GW_of (i := 1238) (by decide +kernel) rfl, GW_of (i := 1240) (by decide +kernel) rfl, GW_of (i := 42) (by decide +kernel) rfl, TX8, 34, rfl⟩
theorem ca_X8_191 : VI RX8 191 mX8_sums 0 8 := ⟨kiX8_sums, GW_of (i := 1210) (by decide +kernel) rfl, GW_of (i := 1212) (by decide +kernel) rfl, GW_of (i := 38) (by decide +kernel) rfl, TX8, 34, rfl⟩
theorem ca_X8_197 : VI RX8 197 mX8_ranked 1 8 := ⟨kiX8_ranked, GW_of (i := 1226) (by decide +kernel) rfl, GW_of (i := 1228) (by decide +kernel) rfl, GW_of (i := 40) (by decide +kernel) rfl, TX8, 34, rfl⟩
theorem ca_X8_170 : VI RX8 170 mX8_latest 0 8 := ⟨kiX8_latest, GW_of (i := 1133) (by decide +kernel) rfl, GW_of (i := 1135) (by decide +kernel) rfl, GW_of (i := 35) (by decide +kernel) rfl, TX8, 34, rfl⟩
theorem ca_X8_105 : VI RX8 105 mX8_isFencer 1 8 := ⟨kiX8_isFencer, GW_of (i := 1040) (by decide +kernel) rfl, GW_of (i := 1042) (by decide +kernel) rfl, GW_of (i := 22) (by decide +kernel) rfl, TX8, 34, rfl⟩
theorem ca_X8_118 : VI RX8 118 mX8_counts 2 8 := ⟨kiX8_counts, GW_of (i := 1071) (by decide +kernel) rfl, GW_of (i := 1073) (by decide +kernel) rfl, GW_of (i := 28) (by decide +kernel) rfl, TX8, 34, rfl⟩
theorem ca_X8_194 : VI RX8 194 mX8_isAhead 2 8 := ⟨kiX8_isAhead, GW_of (i := 1230) (by decide +kernel) rfl, GW_of (i := 1232) (by decide +kernel) rfl, GW_of (i := 41) (by decide +kernel) rfl, TX8, 34, rfl⟩
theorem ca_X8_184 : VI RX8 184 mX8_score 2 8 := ⟨kiX8_score, GW_of (i := 1181) (by decide +kernel) rfl, GW_of (i := 1174) (by decide +kernel) rfl, GW_of (i := 1175) (by decide +kernel) rfl, TX8, 34, rfl⟩
theorem ca_X8_187 : VI RX8 187 mX8_adds 4 8 := ⟨kiX8_adds, GW_of (i := 1214) (by decide +kernel) rfl, GW_of (i := 1216) (by decide +kernel) rfl, GW_of (i := 39) (by decide +kernel) rfl, TX8, 34, rfl⟩
theorem ca_X8_121 : VI RX8 121 mX8_judged 1 8 := ⟨kiX8_judged, GW_of (i := 1067) (by decide +kernel) rfl, GW_of (i := 1069) (by decide +kernel) rfl, GW_of (i := 27) (by decide +kernel) rfl, TX8, 34, rfl⟩
theorem ca_X8_125 : VI RX8 125 mX8_strikes 2 8 := ⟨kiX8_strikes, GW_of (i := 1075) (by decide +kernel) rfl, GW_of (i := 1077) (by decide +kernel) rfl, GW_of (i := 29) (by decide +kernel) rfl, TX8, 34, rfl⟩
theorem ob_X0_3 : Cond.methodLink RX0 3 Lib.objectInit ∈ GW := GW_of (i := 781) (by decide +kernel) rfl
theorem ob_X1_1 : Cond.methodLink RX1 1 Lib.objectInit ∈ GW := GW_of (i := 293) (by decide +kernel) rfl
theorem ob_X2_3 : Cond.methodLink RX2 3 Lib.objectInit ∈ GW := GW_of (i := 559) (by decide +kernel) rfl
theorem ob_X3_3 : Cond.methodLink RX3 3 Lib.objectInit ∈ GW := GW_of (i := 79) (by decide +kernel) rfl
theorem ob_X4_3 : Cond.methodLink RX4 3 Lib.objectInit ∈ GW := GW_of (i := 111) (by decide +kernel) rfl
theorem ob_X5_3 : Cond.methodLink RX5 3 Lib.objectInit ∈ GW := GW_of (i := 137) (by decide +kernel) rfl
theorem ob_X6_3 : Cond.methodLink RX6 3 Lib.objectInit ∈ GW := GW_of (i := 344) (by decide +kernel) rfl
theorem ob_X7_3 : Cond.methodLink RX7 3 Lib.objectInit ∈ GW := GW_of (i := 65) (by decide +kernel) rfl
theorem ob_X8_1 : Cond.methodLink RX8 1 Lib.objectInit ∈ GW := GW_of (i := 919) (by decide +kernel) rfl
theorem ob_i : Cond.instanceMethod Lib.objectInit ∈ GW := GW_of (i := 66) (by decide +kernel) rfl
theorem ob_c : Cond.code Lib.objectInit ⟨#[0xb1]⟩ 1 none ∈ GW := GW_of (i := 67) (by decide +kernel) rfl
theorem th_0_64 : (vx_atS RX7 64 (exN 0) exS).all (fun w => goodWord w || mvWord w) = true ∧ (vx_atS RX7 64 (exN 0) exS).all (fun w => decide (w ∈ lw_tbl)) = true := ⟨by decide +kernel, by decide +kernel⟩
theorem ti_60_153_64 : TI 60 153 64 0 := ⟨⟨_, List.mem_of_getElem? (i := 10) rfl⟩, cl_X7_60, GW_of (i := 52) (by decide +kernel) rfl, by decide +kernel, th_0_64.1, fun w hw => of_decide_eq_true (List.all_eq_true.mp th_0_64.2 w hw)⟩
theorem ti_60_172_64 : TI 60 172 64 0 := ⟨⟨_, List.mem_of_getElem? (i := 12) rfl⟩, cl_X7_60, GW_of (i := 52) (by decide +kernel) rfl, by decide +kernel, th_0_64.1, fun w hw => of_decide_eq_true (List.all_eq_true.mp th_0_64.2 w hw)⟩
theorem th_2_78 : (vx_atS RX7 78 (exN 2) exS).all (fun w => goodWord w || mvWord w) = true ∧ (vx_atS RX7 78 (exN 2) exS).all (fun w => decide (w ∈ lw_tbl)) = true := ⟨by decide +kernel, by decide +kernel⟩
theorem ti_74_179_78 : TI 74 179 78 2 := ⟨⟨_, List.mem_of_getElem? (i := 13) rfl⟩, cl_X7_74, GW_of (i := 54) (by decide +kernel) rfl, by decide +kernel, th_2_78.1, fun w hw => of_decide_eq_true (List.all_eq_true.mp th_2_78.2 w hw)⟩
theorem th_1_97 : (vx_atS RX7 97 (exN 1) exS).all (fun w => goodWord w || mvWord w) = true ∧ (vx_atS RX7 97 (exN 1) exS).all (fun w => decide (w ∈ lw_tbl)) = true := ⟨by decide +kernel, by decide +kernel⟩
theorem ti_93_227_97 : TI 93 227 97 1 := ⟨⟨_, List.mem_of_getElem? (i := 18) rfl⟩, cl_X7_93, GW_of (i := 56) (by decide +kernel) rfl, by decide +kernel, th_1_97.1, fun w hw => of_decide_eq_true (List.all_eq_true.mp th_1_97.2 w hw)⟩
theorem ti_60_229_64 : TI 60 229 64 0 := ⟨⟨_, List.mem_of_getElem? (i := 19) rfl⟩, cl_X7_60, GW_of (i := 52) (by decide +kernel) rfl, by decide +kernel, th_0_64.1, fun w hw => of_decide_eq_true (List.all_eq_true.mp th_0_64.2 w hw)⟩
theorem ti_60_238_64 : TI 60 238 64 0 := ⟨⟨_, List.mem_of_getElem? (i := 20) rfl⟩, cl_X7_60, GW_of (i := 52) (by decide +kernel) rfl, by decide +kernel, th_0_64.1, fun w hw => of_decide_eq_true (List.all_eq_true.mp th_0_64.2 w hw)⟩
theorem ti_74_252_78 : TI 74 252 78 2 := ⟨⟨_, List.mem_of_getElem? (i := 21) rfl⟩, cl_X7_74, GW_of (i := 54) (by decide +kernel) rfl, by decide +kernel, th_2_78.1, fun w hw => of_decide_eq_true (List.all_eq_true.mp th_2_78.2 w hw)⟩
theorem ti_74_118_78 : TI 74 118 78 2 := ⟨⟨_, List.mem_of_getElem? (i := 6) rfl⟩, cl_X7_74, GW_of (i := 54) (by decide +kernel) rfl, by decide +kernel, th_2_78.1, fun w hw => of_decide_eq_true (List.all_eq_true.mp th_2_78.2 w hw)⟩
theorem ti_60_123_64 : TI 60 123 64 0 := ⟨⟨_, List.mem_of_getElem? (i := 7) rfl⟩, cl_X7_60, GW_of (i := 52) (by decide +kernel) rfl, by decide +kernel, th_0_64.1, fun w hw => of_decide_eq_true (List.all_eq_true.mp th_0_64.2 w hw)⟩
theorem ti_60_135_64 : TI 60 135 64 0 := ⟨⟨_, List.mem_of_getElem? (i := 8) rfl⟩, cl_X7_60, GW_of (i := 52) (by decide +kernel) rfl, by decide +kernel, th_0_64.1, fun w hw => of_decide_eq_true (List.all_eq_true.mp th_0_64.2 w hw)⟩
theorem ti_74_147_78 : TI 74 147 78 2 := ⟨⟨_, List.mem_of_getElem? (i := 9) rfl⟩, cl_X7_74, GW_of (i := 54) (by decide +kernel) rfl, by decide +kernel, th_2_78.1, fun w hw => of_decide_eq_true (List.all_eq_true.mp th_2_78.2 w hw)⟩
theorem ti_60_158_64 : TI 60 158 64 0 := ⟨⟨_, List.mem_of_getElem? (i := 11) rfl⟩, cl_X7_60, GW_of (i := 52) (by decide +kernel) rfl, by decide +kernel, th_0_64.1, fun w hw => of_decide_eq_true (List.all_eq_true.mp th_0_64.2 w hw)⟩
theorem ti_93_184_97 : TI 93 184 97 1 := ⟨⟨_, List.mem_of_getElem? (i := 14) rfl⟩, cl_X7_93, GW_of (i := 56) (by decide +kernel) rfl, by decide +kernel, th_1_97.1, fun w hw => of_decide_eq_true (List.all_eq_true.mp th_1_97.2 w hw)⟩
theorem ti_60_189_64 : TI 60 189 64 0 := ⟨⟨_, List.mem_of_getElem? (i := 15) rfl⟩, cl_X7_60, GW_of (i := 52) (by decide +kernel) rfl, by decide +kernel, th_0_64.1, fun w hw => of_decide_eq_true (List.all_eq_true.mp th_0_64.2 w hw)⟩
theorem ti_93_277_97 : TI 93 277 97 1 := ⟨⟨_, List.mem_of_getElem? (i := 24) rfl⟩, cl_X7_93, GW_of (i := 56) (by decide +kernel) rfl, by decide +kernel, th_1_97.1, fun w hw => of_decide_eq_true (List.all_eq_true.mp th_1_97.2 w hw)⟩
theorem ti_60_279_64 : TI 60 279 64 0 := ⟨⟨_, List.mem_of_getElem? (i := 25) rfl⟩, cl_X7_60, GW_of (i := 52) (by decide +kernel) rfl, by decide +kernel, th_0_64.1, fun w hw => of_decide_eq_true (List.all_eq_true.mp th_0_64.2 w hw)⟩
theorem ti_60_304_64 : TI 60 304 64 0 := ⟨⟨_, List.mem_of_getElem? (i := 27) rfl⟩, cl_X7_60, GW_of (i := 52) (by decide +kernel) rfl, by decide +kernel, th_0_64.1, fun w hw => of_decide_eq_true (List.all_eq_true.mp th_0_64.2 w hw)⟩
theorem ti_60_309_64 : TI 60 309 64 0 := ⟨⟨_, List.mem_of_getElem? (i := 28) rfl⟩, cl_X7_60, GW_of (i := 52) (by decide +kernel) rfl, by decide +kernel, th_0_64.1, fun w hw => of_decide_eq_true (List.all_eq_true.mp th_0_64.2 w hw)⟩
theorem ti_60_62_64 : TI 60 62 64 0 := ⟨⟨_, List.mem_of_getElem? (i := 0) rfl⟩, cl_X7_60, GW_of (i := 52) (by decide +kernel) rfl, by decide +kernel, th_0_64.1, fun w hw => of_decide_eq_true (List.all_eq_true.mp th_0_64.2 w hw)⟩
theorem ti_60_203_64 : TI 60 203 64 0 := ⟨⟨_, List.mem_of_getElem? (i := 17) rfl⟩, cl_X7_60, GW_of (i := 52) (by decide +kernel) rfl, by decide +kernel, th_0_64.1, fun w hw => of_decide_eq_true (List.all_eq_true.mp th_0_64.2 w hw)⟩
theorem ti_74_76_78 : TI 74 76 78 2 := ⟨⟨_, List.mem_of_getElem? (i := 1) rfl⟩, cl_X7_74, GW_of (i := 54) (by decide +kernel) rfl, by decide +kernel, th_2_78.1, fun w hw => of_decide_eq_true (List.all_eq_true.mp th_2_78.2 w hw)⟩
theorem ti_74_91_78 : TI 74 91 78 2 := ⟨⟨_, List.mem_of_getElem? (i := 3) rfl⟩, cl_X7_74, GW_of (i := 54) (by decide +kernel) rfl, by decide +kernel, th_2_78.1, fun w hw => of_decide_eq_true (List.all_eq_true.mp th_2_78.2 w hw)⟩
theorem ti_74_326_78 : TI 74 326 78 2 := ⟨⟨_, List.mem_of_getElem? (i := 29) rfl⟩, cl_X7_74, GW_of (i := 54) (by decide +kernel) rfl, by decide +kernel, th_2_78.1, fun w hw => of_decide_eq_true (List.all_eq_true.mp th_2_78.2 w hw)⟩
theorem ti_74_264_78 : TI 74 264 78 2 := ⟨⟨_, List.mem_of_getElem? (i := 22) rfl⟩, cl_X7_74, GW_of (i := 54) (by decide +kernel) rfl, by decide +kernel, th_2_78.1, fun w hw => of_decide_eq_true (List.all_eq_true.mp th_2_78.2 w hw)⟩
theorem ti_74_296_78 : TI 74 296 78 2 := ⟨⟨_, List.mem_of_getElem? (i := 26) rfl⟩, cl_X7_74, GW_of (i := 54) (by decide +kernel) rfl, by decide +kernel, th_2_78.1, fun w hw => of_decide_eq_true (List.all_eq_true.mp th_2_78.2 w hw)⟩
theorem ti_93_201_97 : TI 93 201 97 1 := ⟨⟨_, List.mem_of_getElem? (i := 16) rfl⟩, cl_X7_93, GW_of (i := 56) (by decide +kernel) rfl, by decide +kernel, th_1_97.1, fun w hw => of_decide_eq_true (List.all_eq_true.mp th_1_97.2 w hw)⟩
theorem ti_93_95_97 : TI 93 95 97 1 := ⟨⟨_, List.mem_of_getElem? (i := 4) rfl⟩, cl_X7_93, GW_of (i := 56) (by decide +kernel) rfl, by decide +kernel, th_1_97.1, fun w hw => of_decide_eq_true (List.all_eq_true.mp th_1_97.2 w hw)⟩
theorem ti_60_105_64 : TI 60 105 64 0 := ⟨⟨_, List.mem_of_getElem? (i := 5) rfl⟩, cl_X7_60, GW_of (i := 52) (by decide +kernel) rfl, by decide +kernel, th_0_64.1, fun w hw => of_decide_eq_true (List.all_eq_true.mp th_0_64.2 w hw)⟩
theorem ti_74_275_78 : TI 74 275 78 2 := ⟨⟨_, List.mem_of_getElem? (i := 23) rfl⟩, cl_X7_74, GW_of (i := 54) (by decide +kernel) rfl, by decide +kernel, th_2_78.1, fun w hw => of_decide_eq_true (List.all_eq_true.mp th_2_78.2 w hw)⟩
theorem ti_60_82_64 : TI 60 82 64 0 := ⟨⟨_, List.mem_of_getElem? (i := 2) rfl⟩, cl_X7_60, GW_of (i := 52) (by decide +kernel) rfl, by decide +kernel, th_0_64.1, fun w hw => of_decide_eq_true (List.all_eq_true.mp th_0_64.2 w hw)⟩
theorem hi_L_allez_0 : HI mL_allez 3 0 11 2 1 := ⟨[], (0, 8, 11, 13), [], rfl, (fun z hz => nomatch hz), by decide, by decide, cl_L_13, EW_of (i := 223) (by decide +kernel) rfl, rfl, by decide, Or.inl ⟨2, rfl, dL_allez_11, rfl⟩⟩
theorem hi_L_appeal_2 : HI mL_appeal 5 2 13 4 2 := ⟨[], (0, 10, 13, 19), [(0, 10, 17, 25), (0, 10, 21, 13)], rfl, (fun z hz => nomatch hz), by decide, by decide, cl_L_19, EW_of (i := 325) (by decide +kernel) rfl, rfl, by decide, Or.inr ⟨dL_appeal_13, rfl⟩⟩
theorem hi_L_appeal_1 : HI mL_appeal 5 1 17 4 2 := ⟨[(0, 10, 13, 19)], (0, 10, 17, 25), [(0, 10, 21, 13)], rfl, List.forall_mem_cons.mpr ⟨Or.inr ⟨by decide, exN 2, cl_L_19, by decide⟩, (fun z hz => nomatch hz)⟩, by decide, by decide, cl_L_25, EW_of (i := 377) (by decide +kernel) rfl, rfl, by decide, Or.inr ⟨dL_appeal_17, rfl⟩⟩
theorem hi_L_appeal_0 : HI mL_appeal 5 0 21 4 2 := ⟨[(0, 10, 13, 19), (0, 10, 17, 25)], (0, 10, 21, 13), [], rfl, List.forall_mem_cons.mpr ⟨Or.inr ⟨by decide, exN 2, cl_L_19, by decide⟩, List.forall_mem_cons.mpr ⟨Or.inr ⟨by decide, exN 1, cl_L_25, by decide⟩, (fun z hz => nomatch hz)⟩⟩, by decide, by decide, cl_L_13, EW_of (i := 223) (by decide +kernel) rfl, rfl, by decide, Or.inr ⟨dL_appeal_21, rfl⟩⟩
theorem hi_L_appeals_2 : HI mL_appeals 5 2 13 4 2 := ⟨[], (0, 10, 13, 19), [], rfl, (fun z hz => nomatch hz), by decide, by decide, cl_L_19, EW_of (i := 325) (by decide +kernel) rfl, rfl, by decide, Or.inr ⟨dL_appeals_13, rfl⟩⟩
theorem hi_L_begin_2 : HI mL_begin 7 2 15 5 2 := ⟨[], (0, 12, 15, 19), [(0, 12, 19, 13)], rfl, (fun z hz => nomatch hz), by decide, by decide, cl_L_19, EW_of (i := 325) (by decide +kernel) rfl, rfl, by decide, Or.inr ⟨dL_begin_15, rfl⟩⟩
theorem hi_L_begin_0 : HI mL_begin 7 0 19 5 2 := ⟨[(0, 12, 15, 19)], (0, 12, 19, 13), [], rfl, List.forall_mem_cons.mpr ⟨Or.inr ⟨by decide, exN 2, cl_L_19, by decide⟩, (fun z hz => nomatch hz)⟩, by decide, by decide, cl_L_13, EW_of (i := 223) (by decide +kernel) rfl, rfl, by decide, Or.inr ⟨dL_begin_19, rfl⟩⟩
theorem hi_L_change_2 : HI mL_change 5 2 13 4 2 := ⟨[], (0, 10, 13, 19), [(0, 10, 17, 13)], rfl, (fun z hz => nomatch hz), by decide, by decide, cl_L_19, EW_of (i := 325) (by decide +kernel) rfl, rfl, by decide, Or.inr ⟨dL_change_13, rfl⟩⟩
theorem hi_L_change_0 : HI mL_change 5 0 17 4 2 := ⟨[(0, 10, 13, 19)], (0, 10, 17, 13), [], rfl, List.forall_mem_cons.mpr ⟨Or.inr ⟨by decide, exN 2, cl_L_19, by decide⟩, (fun z hz => nomatch hz)⟩, by decide, by decide, cl_L_13, EW_of (i := 223) (by decide +kernel) rfl, rfl, by decide, Or.inr ⟨dL_change_17, rfl⟩⟩
theorem hi_L_contact_2 : HI mL_contact 7 2 15 5 2 := ⟨[], (0, 12, 15, 19), [(0, 12, 19, 25), (0, 12, 23, 13)], rfl, (fun z hz => nomatch hz), by decide, by decide, cl_L_19, EW_of (i := 325) (by decide +kernel) rfl, rfl, by decide, Or.inr ⟨dL_contact_15, rfl⟩⟩
theorem hi_L_contact_1 : HI mL_contact 7 1 19 5 2 := ⟨[(0, 12, 15, 19)], (0, 12, 19, 25), [(0, 12, 23, 13)], rfl, List.forall_mem_cons.mpr ⟨Or.inr ⟨by decide, exN 2, cl_L_19, by decide⟩, (fun z hz => nomatch hz)⟩, by decide, by decide, cl_L_25, EW_of (i := 377) (by decide +kernel) rfl, rfl, by decide, Or.inr ⟨dL_contact_19, rfl⟩⟩
theorem hi_L_contact_0 : HI mL_contact 7 0 23 5 2 := ⟨[(0, 12, 15, 19), (0, 12, 19, 25)], (0, 12, 23, 13), [], rfl, List.forall_mem_cons.mpr ⟨Or.inr ⟨by decide, exN 2, cl_L_19, by decide⟩, List.forall_mem_cons.mpr ⟨Or.inr ⟨by decide, exN 1, cl_L_25, by decide⟩, (fun z hz => nomatch hz)⟩⟩, by decide, by decide, cl_L_13, EW_of (i := 223) (by decide +kernel) rfl, rfl, by decide, Or.inr ⟨dL_contact_23, rfl⟩⟩
theorem hi_L_drawPools_1 : HI mL_drawPools 4 1 12 3 1 := ⟨[], (0, 9, 12, 25), [(0, 9, 15, 13)], rfl, (fun z hz => nomatch hz), by decide, by decide, cl_L_25, EW_of (i := 377) (by decide +kernel) rfl, rfl, by decide, Or.inl ⟨3, rfl, dL_drawPools_12, rfl⟩⟩
theorem hi_L_drawPools_0 : HI mL_drawPools 4 0 15 3 1 := ⟨[(0, 9, 12, 25)], (0, 9, 15, 13), [], rfl, List.forall_mem_cons.mpr ⟨Or.inr ⟨by decide, exN 1, cl_L_25, by decide⟩, (fun z hz => nomatch hz)⟩, by decide, by decide, cl_L_13, EW_of (i := 223) (by decide +kernel) rfl, rfl, by decide, Or.inl ⟨3, rfl, dL_drawPools_15, rfl⟩⟩
theorem hi_L_drawTableau_0 : HI mL_drawTableau 3 0 11 2 1 := ⟨[], (0, 8, 11, 13), [], rfl, (fun z hz => nomatch hz), by decide, by decide, cl_L_13, EW_of (i := 223) (by decide +kernel) rfl, rfl, by decide, Or.inl ⟨2, rfl, dL_drawTableau_11, rfl⟩⟩
theorem hi_L_fencer_0 : HI mL_fencer 3 0 11 2 1 := ⟨[], (0, 8, 11, 13), [], rfl, (fun z hz => nomatch hz), by decide, by decide, cl_L_13, EW_of (i := 223) (by decide +kernel) rfl, rfl, by decide, Or.inl ⟨2, rfl, dL_fencer_11, rfl⟩⟩
theorem hi_L_fencerOf_2 : HI mL_fencerOf 5 2 13 4 2 := ⟨[], (0, 10, 13, 19), [], rfl, (fun z hz => nomatch hz), by decide, by decide, cl_L_19, EW_of (i := 325) (by decide +kernel) rfl, rfl, by decide, Or.inr ⟨dL_fencerOf_13, rfl⟩⟩
theorem hi_L_halt_0 : HI mL_halt 3 0 11 2 1 := ⟨[], (0, 8, 11, 13), [], rfl, (fun z hz => nomatch hz), by decide, by decide, cl_L_13, EW_of (i := 223) (by decide +kernel) rfl, rfl, by decide, Or.inl ⟨2, rfl, dL_halt_11, rfl⟩⟩
theorem hi_L_index_2 : HI mL_index 4 2 12 3 1 := ⟨[], (0, 9, 12, 19), [], rfl, (fun z hz => nomatch hz), by decide, by decide, cl_L_19, EW_of (i := 325) (by decide +kernel) rfl, rfl, by decide, Or.inl ⟨3, rfl, dL_index_12, rfl⟩⟩
theorem hi_L_mark_2 : HI mL_mark 4 2 12 3 1 := ⟨[], (0, 9, 12, 19), [], rfl, (fun z hz => nomatch hz), by decide, by decide, cl_L_19, EW_of (i := 325) (by decide +kernel) rfl, rfl, by decide, Or.inl ⟨3, rfl, dL_mark_12, rfl⟩⟩
theorem hi_L_nodeWinner_2 : HI mL_nodeWinner 4 2 12 3 1 := ⟨[], (0, 9, 12, 19), [], rfl, (fun z hz => nomatch hz), by decide, by decide, cl_L_19, EW_of (i := 325) (by decide +kernel) rfl, rfl, by decide, Or.inl ⟨3, rfl, dL_nodeWinner_12, rfl⟩⟩
theorem hi_L_owner_2 : HI mL_owner 4 2 12 3 1 := ⟨[], (0, 9, 12, 19), [], rfl, (fun z hz => nomatch hz), by decide, by decide, cl_L_19, EW_of (i := 325) (by decide +kernel) rfl, rfl, by decide, Or.inl ⟨3, rfl, dL_owner_12, rfl⟩⟩
theorem hi_L_phrases_2 : HI mL_phrases 4 2 12 3 1 := ⟨[], (0, 9, 12, 19), [], rfl, (fun z hz => nomatch hz), by decide, by decide, cl_L_19, EW_of (i := 325) (by decide +kernel) rfl, rfl, by decide, Or.inl ⟨3, rfl, dL_phrases_12, rfl⟩⟩
theorem hi_L_rankedAt_2 : HI mL_rankedAt 4 2 12 3 1 := ⟨[], (0, 9, 12, 19), [], rfl, (fun z hz => nomatch hz), by decide, by decide, cl_L_19, EW_of (i := 325) (by decide +kernel) rfl, rfl, by decide, Or.inl ⟨3, rfl, dL_rankedAt_12, rfl⟩⟩
theorem hi_L_right_1 : HI mL_right 5 1 13 4 2 := ⟨[], (0, 10, 13, 25), [(0, 10, 17, 13)], rfl, (fun z hz => nomatch hz), by decide, by decide, cl_L_25, EW_of (i := 377) (by decide +kernel) rfl, rfl, by decide, Or.inr ⟨dL_right_13, rfl⟩⟩
theorem hi_L_right_0 : HI mL_right 5 0 17 4 2 := ⟨[(0, 10, 13, 25)], (0, 10, 17, 13), [], rfl, List.forall_mem_cons.mpr ⟨Or.inr ⟨by decide, exN 1, cl_L_25, by decide⟩, (fun z hz => nomatch hz)⟩, by decide, by decide, cl_L_13, EW_of (i := 223) (by decide +kernel) rfl, rfl, by decide, Or.inr ⟨dL_right_17, rfl⟩⟩
theorem hi_L_score_2 : HI mL_score 5 2 13 4 2 := ⟨[], (0, 10, 13, 19), [], rfl, (fun z hz => nomatch hz), by decide, by decide, cl_L_19, EW_of (i := 325) (by decide +kernel) rfl, rfl, by decide, Or.inr ⟨dL_score_13, rfl⟩⟩
theorem hi_L_scoreAnew_2 : HI mL_scoreAnew 5 2 13 4 2 := ⟨[], (0, 10, 13, 19), [], rfl, (fun z hz => nomatch hz), by decide, by decide, cl_L_19, EW_of (i := 325) (by decide +kernel) rfl, rfl, by decide, Or.inr ⟨dL_scoreAnew_13, rfl⟩⟩
theorem hi_L_test_2 : HI mL_test 7 2 22 5 2 := ⟨[], (0, 19, 22, 19), [(0, 19, 26, 25), (0, 19, 30, 13)], rfl, (fun z hz => nomatch hz), by decide, by decide, cl_L_19, EW_of (i := 325) (by decide +kernel) rfl, rfl, by decide, Or.inr ⟨dL_test_22, rfl⟩⟩
theorem hi_L_test_1 : HI mL_test 7 1 26 5 2 := ⟨[(0, 19, 22, 19)], (0, 19, 26, 25), [(0, 19, 30, 13)], rfl, List.forall_mem_cons.mpr ⟨Or.inr ⟨by decide, exN 2, cl_L_19, by decide⟩, (fun z hz => nomatch hz)⟩, by decide, by decide, cl_L_25, EW_of (i := 377) (by decide +kernel) rfl, rfl, by decide, Or.inr ⟨dL_test_26, rfl⟩⟩
theorem hi_L_test_0 : HI mL_test 7 0 30 5 2 := ⟨[(0, 19, 22, 19), (0, 19, 26, 25)], (0, 19, 30, 13), [], rfl, List.forall_mem_cons.mpr ⟨Or.inr ⟨by decide, exN 2, cl_L_19, by decide⟩, List.forall_mem_cons.mpr ⟨Or.inr ⟨by decide, exN 1, cl_L_25, by decide⟩, (fun z hz => nomatch hz)⟩⟩, by decide, by decide, cl_L_13, EW_of (i := 223) (by decide +kernel) rfl, rfl, by decide, Or.inr ⟨dL_test_30, rfl⟩⟩
theorem hi_L_touches_2 : HI mL_touches 5 2 13 4 2 := ⟨[], (0, 10, 13, 19), [], rfl, (fun z hz => nomatch hz), by decide, by decide, cl_L_19, EW_of (i := 325) (by decide +kernel) rfl, rfl, by decide, Or.inr ⟨dL_touches_13, rfl⟩⟩
theorem hi_L_weapon_2 : HI mL_weapon 4 2 12 3 1 := ⟨[], (0, 9, 12, 19), [(0, 9, 15, 13)], rfl, (fun z hz => nomatch hz), by decide, by decide, cl_L_19, EW_of (i := 325) (by decide +kernel) rfl, rfl, by decide, Or.inl ⟨3, rfl, dL_weapon_12, rfl⟩⟩
theorem hi_L_weapon_0 : HI mL_weapon 4 0 15 3 1 := ⟨[(0, 9, 12, 19)], (0, 9, 15, 13), [], rfl, List.forall_mem_cons.mpr ⟨Or.inr ⟨by decide, exN 2, cl_L_19, by decide⟩, (fun z hz => nomatch hz)⟩, by decide, by decide, cl_L_13, EW_of (i := 223) (by decide +kernel) rfl, rfl, by decide, Or.inl ⟨3, rfl, dL_weapon_15, rfl⟩⟩
theorem hi_L_weaponOf_2 : HI mL_weaponOf 4 2 12 3 1 := ⟨[], (0, 9, 12, 19), [], rfl, (fun z hz => nomatch hz), by decide, by decide, cl_L_19, EW_of (i := 325) (by decide +kernel) rfl, rfl, by decide, Or.inl ⟨3, rfl, dL_weaponOf_12, rfl⟩⟩
theorem hi_L_winner_2 : HI mL_winner 4 2 12 3 1 := ⟨[], (0, 9, 12, 19), [], rfl, (fun z hz => nomatch hz), by decide, by decide, cl_L_19, EW_of (i := 325) (by decide +kernel) rfl, rfl, by decide, Or.inl ⟨3, rfl, dL_winner_12, rfl⟩⟩
theorem hi_L_won_2 : HI mL_won 4 2 12 3 1 := ⟨[], (0, 9, 12, 19), [], rfl, (fun z hz => nomatch hz), by decide, by decide, cl_L_19, EW_of (i := 325) (by decide +kernel) rfl, rfl, by decide, Or.inl ⟨3, rfl, dL_won_12, rfl⟩⟩
end
section
/-! THE CLAIM OUT OF ONE WALK OF THE LAW'S BODY. Your part is whole_start (and what it stands on); all else here is the same for every law, but numbers. -/
def R_law : String := "PisteLineLaw"
def lw_P (b : Addr) (xs : List Int32) (args : Array Value) (s : State) : Prop := args = #[.ref b] ∧ s.IntsAt b xs ∧ xs.length ≤ 2049 ∧ (Jvm.Cond.and given_1 narrow_1).before args s = true
def lw_Q (_ : Array Value) (s : State) (o : Outcome) (t : State) : Prop := o = .returned (some (.int 1)) ∧ Framed s o t [] 603911 7284336
def lw_Z (below : List Frame) (a : Array Value) (s : State) : State → Prop := fun t => ∃ o, t.status = .running ∧ Ended t below o ∧ lw_Q a s o t
/-- the law's own end, with 1 on the stack, nothing written that was there before, its room as the claim has it -/
theorem lw_ret {p : Program} {l : Launch} {e : Env} {s : State} {m : MethodId} {below : List Frame} {meth : Method} {c : Code} {b : Nat} (hx : p.tables.exec = Jvm.exec) (hb : c.code = code) (hr : meth.sig.returnType = ret) (hlocks : meth.locks = false) {pc : Nat} {H : Heap} {ls : Array Slot} (hdg : decode code pc = .ok (.ireturn, 1)) : W p l e room_1 s m #[Value.ref b] below meth c H [] 603911 7284336 (lw_Z below #[Value.ref b] s) (F0 m pc ls [.int 1]) := by
  intro T hT X
  obtain ⟨fs, hret, hrun, hended, hW, hframe⟩ := X.leave (v := some (.int 1)) (hlocks := hlocks) (fun h => by rw [hr] at h; cases h)
  have hmeth' : T.vm.method? m = some meth := X.method'
  refine ⟨T.setFrames fs, ?_, .returned (some (.int 1)), hrun, hended, rfl, ⟨_, rfl⟩, hW, hframe⟩
  jvm_step X.here [X.here.top, hx, hb, hdg, hmeth', hr, ret, narrow_b1]
  (try refine ⟨rfl, ?_⟩); (try refine ⟨rfl, ?_⟩)
  first | (intro acts; rw [hret _ acts rfl rfl rfl]) | rw [hret _ _ rfl rfl rfl]
  exact Steps.refl _
/-- what holds at the law's entry: the machine, the code, the tables' words (any of lw_tbl by 'hts w (by decide +kernel)'), the script of L ints xs at the cell b, what the Statement gives of the start (any of its parts by flat_of_before) -/
def lw_At (p : Program) (s : State) (m : MethodId) (meth : Method) (c : Code) (b L : Nat) (xs : Nat → Int32) : Prop :=
  p.tables.exec = Jvm.exec ∧ c.code = code ∧ meth.sig.returnType = ret ∧ c.maxLocals = 7 ∧ s.vm.findClass R_law = some m.cls ∧ (∀ w ∈ lw_tbl, w.before #[Value.ref b] s = true) ∧ va_X b L xs s s.heap ∧ b < s.heap.size ∧ meth.locks = false ∧ (Jvm.Cond.and given_1 narrow_1).before #[Value.ref b] s = true
theorem str_in : ∀ q ∈ strL, Cond.stringRef RX7 q.1 q.2 ∈ lw_tbl := by
  have h : strL.map (fun q => some (Cond.stringRef RX7 q.1 q.2)) = [262, 332, 339, 374, 384, 391, 512, 517, 522, 534, 535, 537, 553, 601, 610, 615, 631, 639, 677, 678, 684, 708, 739, 756, 771, 772, 861, 889, 890, 913].map (fun i => lw_tbl[i]?) := by decide +kernel
  intro q hq
  have h1 : some (Cond.stringRef RX7 q.1 q.2) ∈ strL.map (fun q => some (Cond.stringRef RX7 q.1 q.2)) := List.mem_map.mpr ⟨q, hq, rfl⟩
  rw [h] at h1
  obtain ⟨i, -, hi⟩ := List.mem_map.mp h1
  exact List.mem_of_getElem? hi
theorem ao_3 : Cond.arrayOver (.object RX1) ∈ lw_tbl := List.mem_of_getElem? (i := 69) (by decide +kernel)
theorem ao_4 : Cond.arrayOver (.object RX6) ∈ lw_tbl := List.mem_of_getElem? (i := 71) (by decide +kernel)
theorem ao_5 : Cond.arrayOver (.object RX0) ∈ lw_tbl := List.mem_of_getElem? (i := 73) (by decide +kernel)
theorem ao_6 : Cond.arrayOver (.object RX2) ∈ lw_tbl := List.mem_of_getElem? (i := 783) (by decide +kernel)
theorem in_X0 : Cond.instantiable RX0 8 ∈ GW := GW_of (i := 777) (by decide +kernel) rfl
theorem in_X1 : Cond.instantiable RX1 5 ∈ GW := GW_of (i := 289) (by decide +kernel) rfl
theorem in_X2 : Cond.instantiable RX2 10 ∈ GW := GW_of (i := 555) (by decide +kernel) rfl
theorem in_X3 : Cond.instantiable RX3 6 ∈ GW := GW_of (i := 75) (by decide +kernel) rfl
theorem in_X4 : Cond.instantiable RX4 5 ∈ GW := GW_of (i := 107) (by decide +kernel) rfl
theorem in_X5 : Cond.instantiable RX5 3 ∈ GW := GW_of (i := 133) (by decide +kernel) rfl
theorem in_X6 : Cond.instantiable RX6 4 ∈ GW := GW_of (i := 340) (by decide +kernel) rfl
theorem in_X7 : Cond.instantiable RX7 10 ∈ GW := GW_of (i := 61) (by decide +kernel) rfl
theorem in_X8 : Cond.instantiable RX8 34 ∈ GW := GW_of (i := 915) (by decide +kernel) rfl
theorem ls_U : Cond.laysStatic Bundle.tN "UNASSIGNED_STACK" Bundle.steD ∈ lw_tbl := List.mem_of_getElem? (i := 248) (by decide +kernel)
theorem ls_S : Cond.laysStatic Bundle.tN "SUPPRESSED_SENTINEL" Bundle.listD ∈ lw_tbl := List.mem_of_getElem? (i := 250) (by decide +kernel)
theorem ini_T : Cond.initialized Bundle.tN ∈ lw_tbl := List.mem_of_getElem? (i := 49) (by decide +kernel)
theorem nw_U : Cond.isRef (.static Bundle.tN "UNASSIGNED_STACK" Bundle.steD) ∈ flatC (Jvm.Cond.and given_1 narrow_1) := by decide +kernel
theorem nw_S : Cond.isRef (.static Bundle.tN "SUPPRESSED_SENTINEL" Bundle.listD) ∈ flatC (Jvm.Cond.and given_1 narrow_1) := by decide +kernel
theorem nw_c : ncL.all (fun q => decide (Cond.not (.castable q.1 q.2) ∈ flatC (Jvm.Cond.and given_1 narrow_1))) = true := by decide +kernel
theorem arr_p {args : Array Value} {s : State} {ty : FieldType} (h : (Cond.arrayClass ty).before args s = true) (hty : ∀ C, ty ≠ .object C) : ∃ cA, ArrOfT s cA ty ∧ va_RA s cA ty := by
  obtain ⟨cA, kA, comp, h1, h2, h3⟩ := Cond.arrayClass_spec h
  refine ⟨cA, fun n z => ⟨fun k h => (by cases h), kA, h2, comp, h3⟩, ?_⟩
  cases ty with
  | object C => exact absurd rfl (hty C)
  | _ => exact h1
theorem arr_o {args : Array Value} {s : State} {C : String} (h : (Cond.arrayOver (.object C)).before args s = true) : ∃ cA, ArrOfT s cA (.object C) ∧ va_RA s cA (.object C) := by
  obtain ⟨comp, c, k, h1, h2, h3, h4, h5⟩ := Cond.arrayOver_spec h
  exact ⟨c, fun n z => ⟨fun k h => (by cases h), k, h3, comp, h4⟩, k, comp, h3, h4, h1, h5⟩
/-- the law's whole walk, out of J of its body -/
theorem start_of (hJ : ∀ X : GX, xL X ≤ 2049 → J X mL_law 0 [some (vR (some tScr)), none, none, none, none, none, none] [] (fun _ => none) 603911 7284336 (fun o _ => o = rt (vI 1)))
    {p : Program} {e : Env} {s : State} {m : MethodId} {below : List Frame} {meth : Method} {c : Code} (l : Launch) (hflags : l.flags = flags0) (htab : c.exceptionTable.toList = []) (hname : meth.name = "law") {b L : Nat} {xs : Nat → Int32} (hL : L ≤ 2049) (C0 : lw_At p s m meth c b L xs) : W p l e room_1 s m #[Value.ref b] below meth c s.heap [] 0 0 (lw_Z below #[Value.ref b] s) (entryFrame m ([Value.ref b] : List Value).toArray 7) := by
  obtain ⟨hx, hb, hr, hml, hown, hts, hX, hbl, hlocks, hgv⟩ := id C0
  have hfl := flat_of_before _ hgv
  have htg : ∀ w ∈ GW, w.before #[Value.ref b] s = true := fun w hw => hts w (List.mem_filter.mp hw).1

  obtain ⟨c0, i0, k0⟩ := u_known (C := RX0) (T := TX0) (N := 8) htg okX0.2.1 (htg _ in_X0)
  obtain ⟨c1, i1, k1⟩ := u_known (C := RX1) (T := TX1) (N := 5) htg okX1.2.1 (htg _ in_X1)
  obtain ⟨c2, i2, k2⟩ := u_known (C := RX2) (T := TX2) (N := 10) htg okX2.2.1 (htg _ in_X2)
  obtain ⟨c3, i3, k3⟩ := u_known (C := RX3) (T := TX3) (N := 6) htg okX3.2.1 (htg _ in_X3)
  obtain ⟨c4, i4, k4⟩ := u_known (C := RX4) (T := TX4) (N := 5) htg okX4.2.1 (htg _ in_X4)
  obtain ⟨c5, i5, k5⟩ := u_known (C := RX5) (T := TX5) (N := 3) htg okX5.2.1 (htg _ in_X5)
  obtain ⟨c6, i6, k6⟩ := u_known (C := RX6) (T := TX6) (N := 4) htg okX6.2.1 (htg _ in_X6)
  obtain ⟨c7, i7, k7⟩ := u_known (C := RX7) (T := TX7) (N := 10) htg okX7.2.1 (htg _ in_X7)
  obtain ⟨c8, i8, k8⟩ := u_known (C := RX8) (T := TX8) (N := 34) htg okX8.2.1 (htg _ in_X8)
  obtain ⟨a0, b0, d0⟩ := arr_p (htg _ aw_int) (fun C h => nomatch h)
  obtain ⟨a1, b1, d1⟩ := arr_p (htg _ aw_bool) (fun C h => nomatch h)
  obtain ⟨a2, b2, d2⟩ := arr_p (htg _ aw_long) (fun C h => nomatch h)
  obtain ⟨a3, b3, d3⟩ := arr_o (hts _ ao_3)
  obtain ⟨a4, b4, d4⟩ := arr_o (hts _ ao_4)
  obtain ⟨a5, b5, d5⟩ := arr_o (hts _ ao_5)
  obtain ⟨a6, b6, d6⟩ := arr_o (hts _ ao_6)
  let X : GX := (l, ((fun k => [c0, c1, c2, c3, c4, c5, c6, c7, c8].getD k c0), (fun k => [i0, i1, i2, i3, i4, i5, i6, i7, i8].getD k i0)), (fun k => [a0, a1, a2, a3, a4, a5, a6].getD k a0), s.heap, b, L, xs)
  have hA : ∀ a : Nat, a < s.heap.size → ¬ xA X a := fun a h1 h2 => absurd (show s.heap.size ≤ a from h2) (by omega)
  have hK1 : va_K (xD X) vwCl (tysL (xtc X)) s := by
    refine ⟨fun k q hq => ?_, fun k q hq => ?_⟩
    · match k, hq with
      | 0, hq => cases hq; exact k0
      | 1, hq => cases hq; exact k1
      | 2, hq => cases hq; exact k2
      | 3, hq => cases hq; exact k3
      | 4, hq => cases hq; exact k4
      | 5, hq => cases hq; exact k5
      | 6, hq => cases hq; exact k6
      | 7, hq => cases hq; exact k7
      | 8, hq => cases hq; exact k8
      | k + 9, hq => simp [vwCl] at hq
    · match k, hq with
      | 0, hq => cases hq; exact ⟨b0, d0⟩
      | 1, hq => cases hq; exact ⟨b1, d1⟩
      | 2, hq => cases hq; exact ⟨b2, d2⟩
      | 3, hq => cases hq; exact ⟨b3, d3⟩
      | 4, hq => cases hq; exact ⟨b4, d4⟩
      | 5, hq => cases hq; exact ⟨b5, d5⟩
      | 6, hq => cases hq; exact ⟨b6, d6⟩
      | k + 7, hq => simp [tysL] at hq
  have hstr : ∀ q ∈ strL, ∃ a, vk_R RX7 q.1 q.2 a s := by
    intro q hq
    have h1 := hts _ (str_in q hq)
    obtain ⟨k, cf, j, a, hk, -, -, -, hr, hev⟩ := Cond.stringRef_spec k7.2.1 h1
    exact ⟨a, vk_R.of h1 hev⟩
  have hKK : KK X s := by
    refine ⟨hK1, hstr, fun w hw => ?_, fun C hC => ?_, fun q hq => ?_, ?_, ?_, hX, ?_⟩
    · exact va_Nw.of (mv_tabs (List.mem_filter.mp hw).2) (hts w (List.mem_filter.mp hw).1)
    · simp only [aoL, List.mem_cons, List.not_mem_nil, or_false] at hC
      rcases hC with rfl | rfl | rfl | rfl
      · exact va_AO.of (hts _ ao_3)
      · exact va_AO.of (hts _ ao_4)
      · exact va_AO.of (hts _ ao_5)
      · exact va_AO.of (hts _ ao_6)
    · exact va_Nc.of (hfl _ (of_decide_eq_true (List.all_eq_true.mp nw_c q hq)))
    · exact vx_Zqof (hts _ ls_U) (hts _ ini_T) (hfl _ nw_U) hA
    · exact vx_Zqof (hts _ ls_S) (hts _ ini_T) (hfl _ nw_S) hA
    · show l.stackTraces = false
      unfold Launch.stackTraces
      rw [hflags]
      decide +kernel
  have hR : HR X (fun _ => b) (fun _ => none) s.heap := by
    refine ⟨(fun t c h => nomatch h), (fun t t' h h' _ => ?_), rfl, rfl, hbl, Nat.le_refl _, fun _ _ => rfl⟩
    rcases h with h | h
    · exact absurd rfl h
    · rcases h' with h' | h'
      · exact absurd rfl h'
      · rw [h, h']
  have F : FOK X mL_law p room_1 s m #[Value.ref b] meth c := ⟨hx, hb, hml, hr, hlocks, hown, htg, hKK, rfl, htab, hname, Nat.le_refl _, fun _ _ => rfl⟩
  have hl := lv_entry [Value.ref b] (n := 7) (Nat.le_of_ble_eq_true rfl)
  rw [lg_entry_eq]
  have hW := hJ X hL p e room_1 s m _ below meth c (fun _ => b) (fun _ => none) F (fun _ => b) s.heap [] 0 0 _ hR ext_rf ⟨hl.1, hl.2.1, fun i v hv => ?_⟩ (fun v hv => nomatch hv) (fun v hv => ?_) (fun z hz => nomatch hz) (Nat.le_of_ble_eq_true rfl) (Nat.le_of_ble_eq_true rfl)
  · intro T hT Y
    obtain ⟨t, st, o, g1, g2, g3⟩ := hW T hT Y
    rcases g3 with ⟨⟨v, h', ψ', e1, e2, -⟩, L', hfe, hLL⟩ | ⟨q, -, E, ce, L', ⟨kq, h', ψ', -, e2, -⟩, -⟩
    · cases e2
      refine ⟨t, st, o, g1, g2, e1, hfe.1, hfe.2.1, hfe.2.2.weaken (fun y hy hlt => ?_) (Nat.le_refl _) (Nat.le_refl _)⟩
      exact absurd hlt (Nat.not_lt.mpr (hLL y hy))
    · cases e2
  · match i, hv with
    | 0, hv => cases hv; exact ⟨hl.2.2 (0, Value.ref b) List.mem_cons_self, rfl⟩
    | 1, hv => cases hv
    | 2, hv => cases hv
    | 3, hv => cases hv
    | 4, hv => cases hv
    | 5, hv => cases hv
    | 6, hv => cases hv
    | i + 7, hv => simp at hv
  · simp at hv
    cases hv
    exact Or.inr rfl
end
