/-! THE REFERENCE: the readers -/
theorem SQ_33 {τ : TS} {x : Int} : SQ (ts τ 33 0 x) τ := SQ_l (by decide) SQ_rfl
theorem te_33 {τ : TS} {s x : Int} : te (ts τ 33 0 x) s = te τ s := rfl
theorem wo_33 {τ : TS} {s x : Int} : wo (ts τ 33 0 x) s = wo τ s := rfl
theorem tch_33 {τ : TS} {s n x : Int} : tch (ts τ 33 0 x) s n = tch τ s n := rfl
