/-! THE REFERENCE: its state is tau, a field and an index to an integer; scalars at the index 0 -/
abbrev TS : Type := Nat → Int → Int
def ts (τ : TS) (k : Nat) (i x : Int) : TS := fun k' => if k' = k then upZ (τ k) i x else τ k'
theorem ts_s {τ : TS} {k : Nat} {i x : Int} : ts τ k i x k = upZ (τ k) i x := if_pos rfl
theorem ts_n {τ : TS} {k k' : Nat} {i x : Int} (h : k' ≠ k) : ts τ k i x k' = τ k' := if_neg h
def aLen : Nat → Nat := fun k => match k with
  | 2 => 24
  | 3 => 24
  | 4 => 24
  | 6 => 66
  | 7 => 66
  | 10 => 82
  | 11 => 164
  | 12 => 984
  | 13 => 1968
  | 14 => 984
  | 15 => 7872
  | 16 => 7872
  | 18 => 2
  | 22 => 32
  | 23 => 32
  | 28 => 16
  | 29 => 12
  | 30 => 12
  | 31 => 12
  | 32 => 12
  | _ => 0
def aKd : Nat → Nat := fun k => match k with
  | 4 => 1
  | 23 => 1
  | _ => 0
section JM
variable {X : GX} {M M' : MI} {pc : Nat} {ls : List (Option LV)} {st rest as : List LV} {h : LH} {τ : TS} {k n : Nat} {P : Option LV → TS → Prop} {Q : LO → LH → Prop} {a x : Int}
theorem M_callS {idx : Nat} {r : Option LV} (d : decode (mC M) pc = .ok (.invokestatic idx, 3)) (f : SI (mN M).cls idx M' as.length) (hrm : rmOK M M') (hst : st = as.reverse ++ rest) (hlen : rest.length ≤ 4) (hk : (mR M').cells = 0) (hn : (mR M').slots = 0)
    (hc : CT X M' as h (rQ (fun v h' => v = r ∧ h' = h))) (kk : J X M (pc + 3) ls (r.toList ++ rest) h k n Q) : J X M pc ls st h k n Q := J_callS d f hrm hst hlen (k' := k) (n' := n) (by omega) (by omega) hc (fun v h' ⟨e1, e2⟩ => by rw [e1, e2]; exact kk)
end JM
