/-! THE CLASS: contracts, and rules for references -/
def QK (h : LH) (P : Option LV → TS → Prop) : LO → LH → Prop := rQ (fun v h' => ∃ ρ', h' = hk h ρ' ∧ P v ρ')
def CK (X : GX) (M : MI) (as : List LV) (h : LH) (ρ : TS) (P : Option LV → TS → Prop) : Prop := CT X M as (hk h ρ) (QK h P)
theorem QK_ok {h : LH} {P : Option LV → TS → Prop} {v : Option LV} {ρ : TS} (hp : P v ρ) : QK h P (.inl v) (hk h ρ) := ⟨ρ, rfl, hp⟩
section JK
variable {X : GX} {M M' : MI} {pc : Nat} {ls : List (Option LV)} {st rest as : List LV} {h : LH} {ρ : TS} {k n k' n' : Nat} {P : Option LV → TS → Prop} {Q : LO → LH → Prop} {a : Nat} {x y i : Int}
theorem Z_some (hx : 0 ≤ x) (kk : J X M pc ls (vR (some (a, x)) :: st) h k n Q) : J X M pc ls (vR (rfo a x) :: st) h k n Q := by rw [rfo_p hx]; exact kk
theorem Z_uns (hx : 0 ≤ x) (kk : J X M pc ls (vR (rfo a x) :: st) h k n Q) : J X M pc ls (vR (some (a, x)) :: st) h k n Q := by rw [← rfo_p hx]; exact kk
theorem Z_unn (a : Nat) (kk : J X M pc ls (vR (rfo a (-1)) :: st) h k n Q) : J X M pc ls (vR none :: st) h k n Q := kk
theorem Z_req {r r' : Option Tg} (e : r = r') (kk : J X M pc ls (vR r' :: st) h k n Q) : J X M pc ls (vR r :: st) h k n Q := e ▸ kk
theorem Z_rfe (e : x = y) (kk : J X M pc ls (vR (rfo a y) :: st) h k n Q) : J X M pc ls (vR (rfo a x) :: st) h k n Q := e ▸ kk
theorem K_ifnull {off : Int} {tgt : Nat} (d : decode (mC M) pc = .ok (.ifnull off, 3)) (ht : (pc : Int) + off = (tgt : Int)) (kt : x < 0 → J X M tgt ls st h k n Q) (kf : 0 ≤ x → J X M (pc + 3) ls st h k n Q) : J X M pc ls (vR (rfo a x) :: st) h k n Q :=
  J_ifnull d ht (fun e => kt (Int.not_le.mp (fun q => by rw [rfo_p q] at e; nomatch e))) (fun t e => kf (Int.not_lt.mp (fun q => by rw [rfo_n q] at e; nomatch e)))
theorem K_ifnonnull {off : Int} {tgt : Nat} (d : decode (mC M) pc = .ok (.ifnonnull off, 3)) (ht : (pc : Int) + off = (tgt : Int)) (kt : 0 ≤ x → J X M tgt ls st h k n Q) (kf : x < 0 → J X M (pc + 3) ls st h k n Q) : J X M pc ls (vR (rfo a x) :: st) h k n Q :=
  J_ifnonnull d ht (fun t e => kt (Int.not_lt.mp (fun q => by rw [rfo_n q] at e; nomatch e))) (fun e => kf (Int.not_le.mp (fun q => by rw [rfo_p q] at e; nomatch e)))
theorem K_iret (d : decode (mC M) pc = .ok (.ireturn, 1)) (hT : mT M = some .int) (hq : P (some (vI (iI x))) ρ) : J X M pc ls [vI (iI x)] (hk h ρ) k n (QK h P) := J_iret d hT (QK_ok hq)
theorem K_zret (d : decode (mC M) pc = .ok (.ireturn, 1)) (hT : mT M = some .boolean) (hx : x = 0 ∨ x = 1) (hq : P (some (vI (iI x))) ρ) : J X M pc ls [vI (iI x)] (hk h ρ) k n (QK h P) := J_zret d hT (zb_of hx) (QK_ok hq)
theorem K_vret (d : decode (mC M) pc = .ok (.return_, 1)) (hT : mT M = none) (hq : P none ρ) : J X M pc ls [] (hk h ρ) k n (QK h P) := J_vret d hT (QK_ok hq)
end JK
