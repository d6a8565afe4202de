/-! RANKS: a strict order; each place is taken by one -/
def dqt (u : TS) (a b : Int) : Int := u 30 a * mx1 (u 29 b) - u 30 b * mx1 (u 29 a)
theorem ahP_i {u : TS} {a b : Int} : ahP u a b ↔ (0 < dqt u a b ∨ (dqt u a b = 0 ∧ (u 31 b - u 32 b < u 31 a - u 32 a ∨ (u 31 b - u 32 b = u 31 a - u 32 a ∧ (u 31 b < u 31 a ∨ (u 31 b = u 31 a ∧ a < b)))))) := by
  unfold ahP ahd
  dsimp only
  rw [show u 30 a * mx1 (u 29 b) - u 30 b * mx1 (u 29 a) = dqt u a b from rfl]
  generalize dqt u a b = d
  by_cases h1 : d = 0
  · rw [if_pos h1]
    by_cases h2 : u 31 a - u 32 a - u 31 b + u 32 b = 0
    · rw [if_pos h2]; omega
    · rw [if_neg h2]; omega
  · rw [if_neg h1, if_neg h1]; omega
theorem mx1_p {x : Int} (h : 0 ≤ x) : 0 < mx1 x := by unfold mx1; split <;> omega
theorem dqt_s {u : TS} {a b : Int} : dqt u b a = - dqt u a b := by unfold dqt; omega
theorem dqt_t {u : TS} {a b c : Int} : dqt u a c * mx1 (u 29 b) = dqt u a b * mx1 (u 29 c) + dqt u b c * mx1 (u 29 a) := by
  unfold dqt
  rw [Int.sub_mul, Int.sub_mul, Int.sub_mul, Int.mul_right_comm (u 30 a) (mx1 (u 29 c)) (mx1 (u 29 b)), Int.mul_right_comm (u 30 c) (mx1 (u 29 b)) (mx1 (u 29 a)), Int.mul_right_comm (u 30 b) (mx1 (u 29 c)) (mx1 (u 29 a))]
  omega
theorem sgn_p {x m : Int} (hm : 0 < m) : (0 < x * m ↔ 0 < x) ∧ (x * m = 0 ↔ x = 0) := by
  have h1 : 0 < x → 0 < x * m := fun h => Int.mul_pos h hm
  have h2 : x < 0 → x * m < 0 := fun h => by
    have := Int.mul_pos (show 0 < -x by omega) hm
    rw [Int.neg_mul] at this
    omega
  have h3 : x = 0 → x * m = 0 := fun h => by rw [h]; exact Int.zero_mul m
  constructor
  · constructor
    · intro h
      by_cases a : 0 < x
      · exact a
      · by_cases b : x = 0
        · have := h3 b; omega
        · have := h2 (by omega); omega
    · exact h1
  · constructor
    · intro h
      by_cases a : 0 < x
      · have := h1 a; omega
      · by_cases b : x = 0
        · exact b
        · have := h2 (by omega); omega
    · exact h3
theorem ahP_tr {u : TS} (hu : ∀ i, 0 ≤ u 29 i) {a b c : Int} (h1 : ahP u a b) (h2 : ahP u b c) : ahP u a c := by
  rw [ahP_i] at h1 h2 ⊢
  have t := dqt_t (u := u) (a := a) (b := b) (c := c)
  have sac := sgn_p (x := dqt u a c) (mx1_p (hu b))
  have sab := sgn_p (x := dqt u a b) (mx1_p (hu c))
  have sbc := sgn_p (x := dqt u b c) (mx1_p (hu a))
  omega
theorem ahP_ir {u : TS} {a : Int} : ¬ ahP u a a := by
  rw [ahP_i]
  have : dqt u a a = 0 := by unfold dqt; omega
  omega
theorem ahP_to {u : TS} {a b : Int} (h : ¬ a = b) : ahP u a b ∨ ahP u b a := by
  rw [ahP_i, ahP_i, dqt_s (u := u) (a := a) (b := b)]
  omega
theorem cnA_b {u : TS} {i : Int} : ∀ m : Nat, cnA u i m ≤ (m : Int) - (if 0 ≤ i ∧ i < m then 1 else 0)
  | 0 => by
    show (0 : Int) ≤ ((0 : Nat) : Int) - _
    rw [if_neg (by omega)]
    omega
  | m + 1 => by
    have h := cnA_b (u := u) (i := i) m
    have p := pI_01 (¬ (m : Int) = i ∧ ahP u m i)
    show cnA u i m + pI (¬ (m : Int) = i ∧ ahP u m i) ≤ ((m + 1 : Nat) : Int) - _
    by_cases e : (m : Int) = i
    · rw [pI_f (fun z => z.1 e), if_pos (by omega)]
      rw [if_neg (by omega)] at h
      omega
    · by_cases e2 : 0 ≤ i ∧ i < m
      · rw [if_pos (by omega)]
        rw [if_pos e2] at h
        omega
      · rw [if_neg (by omega)]
        rw [if_neg e2] at h
        omega
theorem cnA_lt {u : TS} (hu : ∀ i, 0 ≤ u 29 i) {i k : Int} (h : ahP u i k) : ∀ m : Nat, cnA u i m + (if 0 ≤ i ∧ i < m then 1 else 0) ≤ cnA u k m
  | 0 => by
    show (0 : Int) + _ ≤ 0
    rw [if_neg (by omega)]
    omega
  | m + 1 => by
    have ih := cnA_lt hu h m
    show cnA u i m + pI (¬ (m : Int) = i ∧ ahP u m i) + _ ≤ cnA u k m + pI (¬ (m : Int) = k ∧ ahP u m k)
    have hle : pI (¬ (m : Int) = i ∧ ahP u m i) ≤ pI (¬ (m : Int) = k ∧ ahP u m k) := by
      by_cases z : ¬ (m : Int) = i ∧ ahP u m i
      · rw [pI_t z, pI_t (show ¬ (m : Int) = k ∧ ahP u m k from ⟨fun e => ahP_ir (ahP_tr hu h (e ▸ z.2)), ahP_tr hu z.2 h⟩)]
        exact Int.le_refl _
      · rw [pI_f z]
        rcases pI_01 (¬ (m : Int) = k ∧ ahP u m k) with q | q <;> omega
    by_cases e : (m : Int) = i
    · rw [pI_f (fun z => z.1 e), pI_t (show ¬ (m : Int) = k ∧ ahP u m k from ⟨fun z => ahP_ir (by rw [e] at z; rw [z] at h; exact h), by rw [e]; exact h⟩), if_pos (by omega)]
      rw [if_neg (by omega)] at ih
      omega
    · by_cases e2 : 0 ≤ i ∧ i < m
      · rw [if_pos (by omega)]
        rw [if_pos e2] at ih
        omega
      · rw [if_neg (by omega)]
        rw [if_neg e2] at ih
        omega
theorem cnA_inj {u : TS} (hu : ∀ i, 0 ≤ u 29 i) {i k : Int} {n : Nat} (hi : 0 ≤ i ∧ i < n) (hk : 0 ≤ k ∧ k < n) (e : cnA u i n = cnA u k n) : i = k := by
  by_cases z : i = k
  · exact z
  · rcases ahP_to (u := u) z with q | q
    · have := cnA_lt hu q n
      rw [if_pos hi] at this
      omega
    · have := cnA_lt hu q n
      rw [if_pos hk] at this
      omega
theorem pig : ∀ (n : Nat) (f : Int → Int), (∀ i : Int, 0 ≤ i → i < n → 0 ≤ f i ∧ f i < n) → (∀ i j : Int, 0 ≤ i → i < n → 0 ≤ j → j < n → f i = f j → i = j) → ∀ p : Int, 0 ≤ p → p < n → ∃ i : Int, (0 ≤ i ∧ i < n) ∧ f i = p
  | 0, _, _, _, p, h0, h1 => by omega
  | n + 1, f, hb, hinj, p, h0, h1 => by
    have hv := hb n (by omega) (by omega)
    by_cases c : p = f n
    · exact ⟨n, ⟨by omega, by omega⟩, c.symm⟩
    have hne : ∀ i : Int, 0 ≤ i → i < n → f i = (n : Int) → ¬ f n = (n : Int) := fun i a b e q => by
      have := hinj i n a (by omega) (by omega) (by omega) (e.trans q.symm)
      omega
    have key := pig n (fun i : Int => if f i = (n : Int) then f (n : Int) else f i) (fun i a b => by
      have := hb i a (by omega)
      try dsimp only
      by_cases z : f i = n
      · rw [if_pos z]; have := hne i a b z; omega
      · rw [if_neg z]; omega) (fun i j a b d g e => by
      try dsimp only at e
      by_cases z : f i = n
      · rw [if_pos z] at e
        by_cases y : f j = n
        · exact hinj i j a (by omega) d (by omega) (z.trans y.symm)
        · rw [if_neg y] at e
          have := hinj n j (by omega) (by omega) d (by omega) e
          omega
      · rw [if_neg z] at e
        by_cases y : f j = n
        · rw [if_pos y] at e
          have := hinj i n a (by omega) (by omega) (by omega) e
          omega
        · rw [if_neg y] at e
          exact hinj i j a (by omega) d (by omega) e)
    by_cases c2 : p < n
    · obtain ⟨i, ⟨i0, i1⟩, e⟩ := key p h0 c2
      try dsimp only at e
      by_cases z : f i = n
      · rw [if_pos z] at e; exact absurd e.symm c
      · rw [if_neg z] at e; exact ⟨i, ⟨i0, by omega⟩, e⟩
    · have hp : p = (n : Int) := by omega
      obtain ⟨i, ⟨i0, i1⟩, e⟩ := key (f n) hv.1 (by omega)
      try dsimp only at e
      by_cases z : f i = n
      · exact ⟨i, ⟨i0, by omega⟩, by omega⟩
      · rw [if_neg z] at e
        have := hinj i n i0 (by omega) (by omega) (by omega) e
        omega
theorem rk_ex {u : TS} (hu : ∀ i, 0 ≤ u 29 i) {n : Nat} {p : Int} (h0 : 0 ≤ p) (h1 : p < n) : ∃ i : Int, (0 ≤ i ∧ i < n) ∧ cnA u i n = p := by
  refine pig n (fun i : Int => cnA u i n) (fun i a b => ?_) (fun i j a b d g e => cnA_inj hu ⟨a, b⟩ ⟨d, g⟩ e) p h0 h1
  have x := cnA_b (u := u) (i := i) n
  have y := cnA_rg (u := u) (i := i) n
  rw [if_pos ⟨a, b⟩] at x
  try dsimp only
  omega
theorem rk_un {u : TS} (hu : ∀ i, 0 ≤ u 29 i) {n p i : Int} (hi : 0 ≤ i ∧ i < n) (e : cnA u i n.toNat = p) : ∀ m : Nat, (m : Int) ≤ n → rkF u p n m = if i < m then i else 0
  | 0, _ => by rw [if_neg (by omega)]; rfl
  | m + 1, hm => by
    have ih := rk_un hu hi e m (by omega)
    show (if cnA u m n.toNat = p then (m : Int) else rkF u p n m) = _
    by_cases z : cnA u m n.toNat = p
    · have := cnA_inj hu (n := n.toNat) (i := i) (k := m) (by omega) (by omega) (e.trans z.symm)
      rw [if_pos z, if_pos (by omega)]
      omega
    · rw [if_neg z, ih]
      have : ¬ i = (m : Int) := fun q => z (by rw [← q]; exact e)
      by_cases y : i < m
      · rw [if_pos y, if_pos (by omega)]
      · rw [if_neg y, if_neg (by omega)]
/-- who has the place p -/
theorem rk_at {u : TS} (hu : ∀ i, 0 ≤ u 29 i) {n p i : Int} (hi : 0 ≤ i ∧ i < n) (e : cnA u i n.toNat = p) : rkF u p n n.toNat = i := by
  rw [rk_un hu hi e n.toNat (by omega), if_pos (by omega)]
