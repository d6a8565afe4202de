/-! LOGICAL HEAPS OVER THE MACHINE: addresses are tags that the writer chooses; a judgement J over a frame, with one rule an instruction; a contract CT a method. My own text. -/
abbrev Tg : Type := Nat × Int
/-- a value: an int, a long, a reference by its tag or null -/
abbrev LV : Type := Int32 ⊕ (Int64 ⊕ Option Tg)
abbrev vI (x : Int32) : LV := .inl x
abbrev vL (x : Int64) : LV := .inr (.inl x)
abbrev vR (o : Option Tg) : LV := .inr (.inr o)
/-- a cell: an object (class, fields) or a row (kind, length, what it holds) -/
abbrev LC : Type := (Nat × List LV) ⊕ (Nat × Nat × ((Nat → Int32) ⊕ ((Nat → Int64) ⊕ (Nat → Option Tg))))
abbrev cO (ci : Nat) (fs : List LV) : LC := .inl (ci, fs)
abbrev cI (k n : Nat) (f : Nat → Int32) : LC := .inr (k, n, .inl f)
abbrev cL (k n : Nat) (f : Nat → Int64) : LC := .inr (k, n, .inr (.inl f))
abbrev cQ (k n : Nat) (f : Nat → Option Tg) : LC := .inr (k, n, .inr (.inr f))
abbrev LH : Type := Tg → Option LC
def hup (h : LH) (t : Tg) (c : LC) : LH := fun u => if u = t then some c else h u
theorem hup_s {h : LH} {t : Tg} {c : LC} : hup h t c t = some c := if_pos rfl
theorem hup_n {h : LH} {t u : Tg} {c : LC} (e : u ≠ t) : hup h t c u = h u := if_neg e
def phR (ψ : Tg → Nat) (o : Option Tg) : Value := va_rf (o.map ψ)
def ph (ψ : Tg → Nat) : LV → Value
  | .inl x => .int x
  | .inr (.inl x) => .long x
  | .inr (.inr o) => phR ψ o
abbrev tScr : Tg := (0, 0)
def Lt (h : LH) (t : Tg) : Prop := h t ≠ none ∨ t = tScr
def Lv (h : LH) : LV → Prop
  | .inr (.inr (some t)) => Lt h t
  | _ => True
def Lc (h : LH) : LC → Prop
  | .inl o => ∀ v ∈ o.2, Lv h v
  | .inr (_, _, .inr (.inr f)) => ∀ j t, f j = some t → Lt h t
  | .inr _ => True
def aTy : Nat → FieldType := fun k => match k with
  | 0 => .int
  | 1 => .int
  | 2 => .long
  | 3 => .object RX1
  | 4 => .object RX6
  | 5 => .object RX0
  | _ => .object RX2
def tysL (tc : Nat → ClassId) : List (ClassId × FieldType) := (List.range 7).map (fun k => (tc k, aTy k))
theorem tysL_at (tc : Nat → ClassId) {k : Nat} (hk : k < 7) : (tysL tc)[k]? = some (tc k, aTy k) := by
  simp [tysL, hk]
def conc (tc : Nat → ClassId) (ψ : Tg → Nat) : LC → va_E
  | .inl o => .inr (o.1, o.2.map (ph ψ))
  | .inr (k, n, .inl f) => .inl (tc k, n, .inl f)
  | .inr (k, n, .inr (.inl f)) => .inl (tc k, n, .inr (.inl f))
  | .inr (k, n, .inr (.inr f)) => .inl (tc k, n, .inr (.inr (.inr (.inr (fun j => (f j).map ψ)))))
/-- what stays through the whole run: launch, class ids, ids of the rows' classes, the heap at the start, the script -/
abbrev GX : Type := Launch × va_G × (Nat → ClassId) × Heap × Nat × Nat × (Nat → Int32)
abbrev xl (X : GX) : Launch := X.1
abbrev xD (X : GX) : va_G := X.2.1
abbrev xtc (X : GX) : Nat → ClassId := X.2.2.1
abbrev xB (X : GX) : Heap := X.2.2.2.1
abbrev xb (X : GX) : Nat := X.2.2.2.2.1
abbrev xL (X : GX) : Nat := X.2.2.2.2.2.1
abbrev xs (X : GX) : Nat → Int32 := X.2.2.2.2.2.2
abbrev xA (X : GX) : Addr → Prop := fun q => (xB X).size ≤ q
def HR (X : GX) (ψ : Tg → Nat) (h : LH) (H : Heap) : Prop :=
  (∀ t c, h t = some c → va_at (xD X) vwCl (ψ t, conc (xtc X) ψ c) H ∧ (xB X).size ≤ ψ t ∧ Lc h c) ∧
  (∀ t t', Lt h t → Lt h t' → ψ t = ψ t' → t = t') ∧ ψ tScr = xb X ∧ h tScr = none ∧ xb X < (xB X).size ∧
  (xB X).size ≤ H.size ∧ ∀ q, q < (xB X).size → H[q]? = (xB X)[q]?
def ext (ψ ψ' : Tg → Nat) (h h' : LH) : Prop := ∀ t, Lt h t → ψ' t = ψ t ∧ Lt h' t
theorem ext_rf {ψ : Tg → Nat} {h : LH} : ext ψ ψ h h := fun _ hl => ⟨rfl, hl⟩
theorem ext_tr {ψ ψ' ψ'' : Tg → Nat} {h h' h'' : LH} (a : ext ψ ψ' h h') (b : ext ψ' ψ'' h' h'') : ext ψ ψ'' h h'' := fun t hl => ⟨(b t (a t hl).2).1.trans (a t hl).1, (b t (a t hl).2).2⟩
theorem ext_ph {ψ ψ' : Tg → Nat} {h h' : LH} (a : ext ψ ψ' h h') {v : LV} (hv : Lv h v) : ph ψ' v = ph ψ v := by
  match v, hv with
  | .inl x, _ => rfl
  | .inr (.inl x), _ => rfl
  | .inr (.inr none), _ => rfl
  | .inr (.inr (some t)), hv => show Value.ref (ψ' t) = Value.ref (ψ t); rw [(a t hv).1]
theorem ext_lv {ψ ψ' : Tg → Nat} {h h' : LH} (a : ext ψ ψ' h h') {v : LV} (hv : Lv h v) : Lv h' v := by
  match v, hv with
  | .inl x, _ => trivial
  | .inr (.inl x), _ => trivial
  | .inr (.inr none), _ => trivial
  | .inr (.inr (some t)), hv => exact (a t hv).2
theorem ext_map {ψ ψ' : Tg → Nat} {h h' : LH} (a : ext ψ ψ' h h') {st : List LV} (hv : ∀ v ∈ st, Lv h v) : st.map (ph ψ') = st.map (ph ψ) := List.map_congr_left (fun v hm => ext_ph a (hv v hm))
/-- the locals -/
def LRel (ψ : Tg → Nat) (ls : List (Option LV)) (la : Array Slot) (nL : Nat) : Prop := la.size = nL ∧ lv_wf la ∧ ∀ (i : Nat) (v : LV), ls[i]? = some (some v) → la[i]? = some (Slot.val (ph ψ v))
theorem LRel_ext {ψ ψ' : Tg → Nat} {h h' : LH} (a : ext ψ ψ' h h') {ls : List (Option LV)} (hv : ∀ v, some v ∈ ls → Lv h v) {la : Array Slot} {nL : Nat} (r : LRel ψ ls la nL) : LRel ψ' ls la nL :=
  ⟨r.1, r.2.1, fun i v hi => by rw [ext_ph a (hv v (List.mem_of_getElem? hi))]; exact r.2.2 i v hi⟩
/-- the tables' words that keep under warming; those that have laws of their own -/
def GW : List Cond := lw_tbl.filter goodWord
def mvWord : Cond → Bool
  | .methodLinkNest .. => true
  | .declares _ => true
  | .castable .. => true
  | _ => false
def EW : List Cond := lw_tbl.filter mvWord
theorem mv_moves {w : Cond} (hw : mvWord w = true) {s U : State} (hW : s.WarmedH U.vm) (h : va_Nw w s) : va_Nw w U := by
  cases w <;> first
    | exact va_Nw.warmM hW h
    | exact va_Nw.warmD hW h
    | exact va_Nw.warmC hW h
    | (simp [mvWord] at hw; done)
theorem mv_tabs {w : Cond} (hw : mvWord w = true) : w.onTables = true := by
  cases w <;> first
    | rfl
    | (simp [mvWord] at hw; done)
def aoL : List String := [RX1, RX6, RX0, RX2]
abbrev exN (k : Nat) : String := if k = 0 then "java/lang/IllegalStateException" else if k = 1 then "java/lang/IllegalArgumentException" else "java/lang/IndexOutOfBoundsException"
def ncL : List (String × String) := [(exN 0, exN 1), (exN 0, exN 2), (exN 1, exN 0), (exN 1, exN 2), (exN 2, exN 0), (exN 2, exN 1)]
/-- what the tables and the statics say, in any state of the run -/
def KK (X : GX) (U : State) : Prop :=
  va_K (xD X) vwCl (tysL (xtc X)) U ∧ (∀ q ∈ strL, ∃ a, vk_R RX7 q.1 q.2 a U) ∧ (∀ w ∈ EW, va_Nw w U) ∧ (∀ C ∈ aoL, va_AO C U) ∧ (∀ q ∈ ncL, va_Nc q.1 q.2 U) ∧
  vx_Zq Bundle.tN "UNASSIGNED_STACK" Bundle.steD (xA X) U (xB X) ∧ vx_Zq Bundle.tN "SUPPRESSED_SENTINEL" Bundle.listD (xA X) U (xB X) ∧ va_X (xb X) (xL X) (xs X) U (xB X) ∧ (xl X).stackTraces = false
theorem KK.warm {X : GX} {s U : State} (hW : s.WarmedH U.vm) (h : KK X s) : KK X U := by
  obtain ⟨h1, h2, h3, h4, h5, h6, h7, h8, h9⟩ := h
  have hv : s.vm.Alike U.vm := hW.alike
  exact ⟨va_K.moved hv h1, fun q hq => ⟨_, vk_R.warm hW (h2 q hq).choose_spec⟩, fun w hw => mv_moves (List.mem_filter.mp hw).2 hW (h3 w hw), fun C hC => va_AO.moved hv (h4 C hC), fun q hq => va_Nc.moved hv (h5 q hq), vx_Zq.moved hv h6, vx_Zq.moved hv h7, va_X.moved hv h8, h9⟩
/-- a method: name, code, locals, what it returns, its handlers, its room -/
abbrev MI : Type := MethodName × ByteArray × Nat × Option FieldType × List (Nat × Nat × Nat × Nat) × Room
abbrev mN (M : MI) : MethodName := M.1
abbrev mC (M : MI) : ByteArray := M.2.1
abbrev mL (M : MI) : Nat := M.2.2.1
abbrev mT (M : MI) : Option FieldType := M.2.2.2.1
abbrev mH (M : MI) : List (Nat × Nat × Nat × Nat) := M.2.2.2.2.1
abbrev mR (M : MI) : Room := M.2.2.2.2.2
def wsO (M : MI) : List Cond := (if (mH M).isEmpty then Cond.code (mN M) (mC M) (mL M) (mT M) else Cond.codeWith (mN M) (mC M) (mL M) (mT M) (mH M)) :: GW
/-- how a method ends: it returns, or throws an exception of the kind k -/
abbrev LO : Type := Option LV ⊕ Nat
abbrev rt (v : LV) : LO := .inl (some v)
abbrev rv : LO := .inl none
def QR (X : GX) (ψ0 : Tg → Nat) (h0 : LH) (Q : LO → LH → Prop) : Array Value → State → Outcome → State → Prop := fun _ _ o t =>
  ∃ (v : Option LV) (h : LH) (ψ : Tg → Nat), o = .returned (v.map (ph ψ)) ∧ Q (.inl v) h ∧ HR X ψ h t.heap ∧ ext ψ0 ψ h0 h ∧ ∀ w ∈ v, Lv h w
def QX (X : GX) (ψ0 : Tg → Nat) (h0 : LH) (Q : LO → LH → Prop) : String → State → State → Prop := fun E _ t =>
  ∃ (k : Nat) (h : LH) (ψ : Tg → Nat), E = exN k ∧ Q (.inr k) h ∧ HR X ψ h t.heap ∧ ext ψ0 ψ h0 h
/-- a method's contract -/
def CT (X : GX) (M : MI) (as : List LV) (h : LH) (Q : LO → LH → Prop) : Prop :=
  ∀ ψ : Tg → Nat, vx_Met (xl X) (mN M) (wsO M) (mR M) (va_Pc (as.map (ph ψ)) (fun U => KK X U ∧ HR X ψ h U.heap ∧ ∀ v ∈ as, Lv h v)) (QR X ψ h Q) (QX X ψ h Q) (mR M).cells (mR M).slots (xA X)
def FOK (X : GX) (M : MI) (p : Program) (R : Room) (s : State) (m : MethodId) (args : Array Value) (meth : Method) (c : Code) : Prop :=
  p.tables.exec = Jvm.exec ∧ c.code = mC M ∧ c.maxLocals = mL M ∧ meth.sig.returnType = mT M ∧ meth.locks = false ∧ s.vm.findClass (mN M).cls = some m.cls ∧ (∀ w ∈ GW, w.before args s = true) ∧ KK X s ∧ R = mR M ∧ c.exceptionTable.toList = tableOf (mH M) ∧ meth.name = (mN M).name ∧ (xB X).size ≤ s.heap.size ∧ ∀ q, q < (xB X).size → s.heap[q]? = (xB X)[q]?
/-- the frame of M at pc: it comes to an end with Q; k cells and n slots may still be made -/
def J0 (X : GX) (M : MI) (pc : Nat) (ls : List (Option LV)) (st : List LV) (h : LH) (k n : Nat) (Q : LO → LH → Prop) : Prop :=
  ∀ (p : Program) (e : Env) (R : Room) (s : State) (m : MethodId) (args : Array Value) (below : List Frame) (meth : Method) (c : Code) (ψ0 : Tg → Nat) (h0 : LH), FOK X M p R s m args meth c →
  ∀ (ψ : Tg → Nat) (H : Heap) (locs : List Loc) (cells slots : Nat) (la : Array Slot), HR X ψ h H → ext ψ0 ψ h0 h → LRel ψ ls la (mL M) → (∀ v ∈ st, Lv h v) → (∀ v, some v ∈ ls → Lv h v) → (∀ z ∈ locs, xA X z.base) → cells + k ≤ (mR M).cells → slots + n ≤ (mR M).slots →
    W p (xl X) e R s m args below meth c H locs cells slots (vx_MQ below (QR X ψ0 h0 Q) (QX X ψ0 h0 Q) args s (mR M).cells (mR M).slots (xA X)) (F0 m pc la (st.map (ph ψ)))
theorem J_ne : Nonempty {f : GX → MI → Nat → List (Option LV) → List LV → LH → Nat → Nat → (LO → LH → Prop) → Prop // f = J0} := ⟨⟨J0, rfl⟩⟩
/-- J0 under a name that unification doesn't unfold -/
noncomputable def J : GX → MI → Nat → List (Option LV) → List LV → LH → Nat → Nat → (LO → LH → Prop) → Prop := (Classical.choice J_ne).1
theorem J_def : J = J0 := (Classical.choice J_ne).2
theorem CT.mono {X : GX} {M : MI} {as : List LV} {h : LH} {Q Q' : LO → LH → Prop} (hq : ∀ o h', Q o h' → Q' o h') (hc : CT X M as h Q) : CT X M as h Q' := by
  intro ψ p e ha hcas hck s m args below hf happ hP hK
  obtain ⟨n, o, h1, h2, h3, h4⟩ := hc ψ p e ha hcas hck s m args below hf happ hP hK
  refine ⟨n, o, h1, h2, h3, ?_⟩
  rcases h4 with ⟨⟨v, h', ψ', e1, e2, e3⟩, L⟩ | ⟨q, e0, E, ce, L, ⟨k, h', ψ', e1, e2, e3⟩, r⟩
  · exact Or.inl ⟨⟨v, h', ψ', e1, hq _ _ e2, e3⟩, L⟩
  · exact Or.inr ⟨q, e0, E, ce, L, ⟨k, h', ψ', e1, hq _ _ e2, e3⟩, r⟩
/-- a method that throws nothing -/
def rQ (P : Option LV → LH → Prop) : LO → LH → Prop := fun o h => match o with
  | .inl v => P v h
  | .inr _ => False
theorem CT.met {X : GX} {M : MI} {as : List LV} {h : LH} {P : Option LV → LH → Prop} (hc : CT X M as h (rQ P)) (ψ : Tg → Nat) :
    Met (xl X) (mN M) (wsO M) (mR M) (va_Pc (as.map (ph ψ)) (fun U => KK X U ∧ HR X ψ h U.heap ∧ ∀ v ∈ as, Lv h v)) (QR X ψ h (rQ P)) (mR M).cells (mR M).slots (xA X) := by
  intro p e ha hcas hck s m args below hf happ hP hK
  obtain ⟨n, o, h1, h2, h3, h4⟩ := hc ψ p e ha hcas hck s m args below hf happ hP hK
  refine ⟨n, o, h1, h2, h3, ?_⟩
  rcases h4 with ⟨hq, L⟩ | ⟨q, e0, E, ce, L, ⟨k, h', ψ', e1, e2, e3⟩, r⟩
  · exact ⟨hq, L⟩
  · exact e2.elim
