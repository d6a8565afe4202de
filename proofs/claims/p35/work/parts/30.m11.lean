/-! THE REFERENCE: the draws -/
def arT (τ : TS) : Nat → TS
  | 0 => τ
  | i + 1 => t3 (arT τ i) (te τ i)
def dcd (τ : TS) : Nat → Prop
  | 0 => True
  | i + 1 => dcd τ i ∧ ¬ (te τ i).2.2 = -1
theorem SQ_arT {τ : TS} : ∀ i, SQ (arT τ i) τ
  | 0 => SQ_rfl
  | i + 1 => SQ_t3 (SQ_arT i)
theorem WF_arT {τ : TS} (W : WF τ) : ∀ i, WF (arT τ i)
  | 0 => W
  | i + 1 => WF_t3 (WF_arT W i) (te_rg W i)
theorem arT_at {τ : TS} {k : Nat} (h : k < 25 ∨ 27 < k) : ∀ i, arT τ i k = τ k
  | 0 => rfl
  | i + 1 => by show t3 (arT τ i) (te τ i) k = τ k; unfold t3; rw [ts_n (by omega), ts_n (by omega), ts_n (by omega), arT_at h i]
def pJ (F m k : Int) : Nat → Int → List (Int × Int)
  | 0, _ => []
  | f + 1, j => if j < F then (k, j) :: pJ F m k f (j + m) else []
def pK (F m : Int) : Nat → Int → List (Int × Int)
  | 0, _ => []
  | f + 1, k => if k < F then pJ F m k 13 (k + m) ++ pK F m f (k + m) else []
def pP (F m : Int) : Nat → Int → List (Int × Int)
  | 0, _ => []
  | f + 1, p => if p < m then pK F m 13 p ++ pP F m f (p + 1) else []
/-- the pools' bouts in their order -/
def pls (F m : Int) : List (Int × Int) := pP F m 5 0
theorem pls_len {F m : Int} (h : 0 ≤ F ∧ F ≤ 12) (h' : 1 ≤ m ∧ m ≤ 4) : (pls F m).length ≤ 66 := by
  have e1 : F = 0 ∨ F = 1 ∨ F = 2 ∨ F = 3 ∨ F = 4 ∨ F = 5 ∨ F = 6 ∨ F = 7 ∨ F = 8 ∨ F = 9 ∨ F = 10 ∨ F = 11 ∨ F = 12 := by omega
  have e2 : m = 1 ∨ m = 2 ∨ m = 3 ∨ m = 4 := by omega
  rcases e1 with rfl | rfl | rfl | rfl | rfl | rfl | rfl | rfl | rfl | rfl | rfl | rfl | rfl <;> rcases e2 with rfl | rfl | rfl | rfl <;> decide +kernel
def in1 (τ : TS) (a b : Int) : TS := ts (ts (ts τ 6 (τ 9 0) a) 7 (τ 9 0) b) 9 0 (τ 9 0 + 1)
def inL : TS → List (Int × Int) → TS
  | τ, [] => τ
  | τ, x :: l => inL (in1 τ x.1 x.2) l
theorem inL_app : ∀ (l r : List (Int × Int)) (τ : TS), inL τ (l ++ r) = inL (inL τ l) r
  | [], _, _ => rfl
  | x :: l, r, τ => inL_app l r (in1 τ x.1 x.2)
theorem in1_9 {τ : TS} {a b : Int} : in1 τ a b 9 0 = τ 9 0 + 1 := rfl
theorem inL_9 : ∀ (l : List (Int × Int)) (τ : TS), inL τ l 9 0 = τ 9 0 + l.length
  | [], τ => by show τ 9 0 = τ 9 0 + ((0 : Nat) : Int); omega
  | x :: l, τ => by show inL (in1 τ x.1 x.2) l 9 0 = _; rw [inL_9 l, in1_9, List.length_cons]; push_cast; omega
theorem inL_k {k : Nat} (h : k ≠ 6 ∧ k ≠ 7 ∧ k ≠ 9) : ∀ (l : List (Int × Int)) (τ : TS), inL τ l k = τ k
  | [], τ => rfl
  | x :: l, τ => by show inL (in1 τ x.1 x.2) l k = _; rw [inL_k h l]; unfold in1; rw [ts_n h.2.2, ts_n h.2.1, ts_n h.1]
def okl (l : List (Int × Int)) : Prop := ∀ x ∈ l, (0 ≤ x.1 ∧ x.1 ≤ 11) ∧ 0 ≤ x.2 ∧ x.2 ≤ 11
theorem WF_inL : ∀ (l : List (Int × Int)) (τ : TS), WF τ → okl l → 0 ≤ τ 9 0 → τ 9 0 + l.length ≤ 66 → WF (inL τ l)
  | [], τ, W, _, _, _ => W
  | x :: l, τ, W, hl, h0, h1 => by
      have hx := hl x (List.mem_cons_self ..)
      rw [List.length_cons] at h1
      push_cast at h1
      exact WF_inL l (in1 τ x.1 x.2) (WF_ts (WF_ts (WF_ts W hx.1) hx.2) (by show (0 : Int) ≤ _ ∧ _ ≤ (66 : Int); omega)) (fun y hy => hl y (List.mem_cons_of_mem _ hy)) (by rw [in1_9]; omega) (by rw [in1_9]; omega)
theorem okl_app {a b : List (Int × Int)} (ha : okl a) (hb : okl b) : okl (a ++ b) := fun x hx => (List.mem_append.mp hx).elim (ha x) (hb x)
theorem okJ {F m k : Int} (hF : F ≤ 12) (hm : 1 ≤ m) (hk : 0 ≤ k ∧ k ≤ 11) : ∀ (f : Nat) (j : Int), 0 ≤ j → okl (pJ F m k f j)
  | 0, _, _ => fun x hx => nomatch hx
  | f + 1, j, hj => by
      show okl (if j < F then (k, j) :: pJ F m k f (j + m) else [])
      split
      · intro x hx
        rcases List.mem_cons.mp hx with e | e
        · subst e; exact And.intro hk (by show 0 ≤ j ∧ j ≤ 11; omega)
        · exact okJ hF hm hk f (j + m) (by omega) x e
      · exact fun x hx => nomatch hx
theorem okK {F m : Int} (hF : F ≤ 12) (hm : 1 ≤ m) : ∀ (f : Nat) (k : Int), 0 ≤ k → okl (pK F m f k)
  | 0, _, _ => fun x hx => nomatch hx
  | f + 1, k, hk => by
      show okl (if k < F then pJ F m k 13 (k + m) ++ pK F m f (k + m) else [])
      split
      · exact okl_app (okJ hF hm (by omega) 13 _ (by omega)) (okK hF hm f _ (by omega))
      · exact fun x hx => nomatch hx
theorem okP {F m : Int} (hF : F ≤ 12) (hm : 1 ≤ m) : ∀ (f : Nat) (p : Int), 0 ≤ p → okl (pP F m f p)
  | 0, _, _ => fun x hx => nomatch hx
  | f + 1, p, hp => by
      show okl (if p < m then pK F m 13 p ++ pP F m f (p + 1) else [])
      split
      · exact okl_app (okK hF hm 13 _ (by omega)) (okP hF hm f _ (by omega))
      · exact fun x hx => nomatch hx
