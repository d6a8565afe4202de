/-! THE REFERENCE: the draw of the tableau -/
/-- a whole field put in place -/
def fs (τ : TS) (k : Nat) (g : Int → Int) : TS := fun k' => if k' = k then g else τ k'
theorem fs_s {τ : TS} {k : Nat} {g : Int → Int} : fs τ k g k = g := if_pos rfl
theorem fs_n {τ : TS} {k k' : Nat} {g : Int → Int} (h : k' ≠ k) : fs τ k g k' = τ k' := if_neg h
theorem ts_fs {τ : TS} {k : Nat} {g : Int → Int} {i x : Int} : ts (fs τ k g) k i x = fs τ k (upZ g i x) := by
  funext k'
  by_cases h : k' = k
  · subst h; rw [ts_s, fs_s, fs_s]
  · rw [ts_n h, fs_n h, fs_n h]
theorem fs_id {τ : TS} {k : Nat} : fs τ k (τ k) = τ := by
  funext k'
  by_cases h : k' = k
  · subst h; rw [fs_s]
  · rw [fs_n h]
theorem ts_as {τ : TS} {k : Nat} {i x : Int} : ts τ k i x = fs τ k (upZ (τ k) i x) := by
  rw [← ts_fs, fs_id]
theorem WF_fs {τ : TS} {k : Nat} {g : Int → Int} (W : WF τ) (h : ∀ i, (bnd k).1 ≤ g i ∧ g i ≤ (bnd k).2) : WF (fs τ k g) := by
  intro k' i h1 h2
  by_cases e : k' = k
  · subst e; rw [fs_s]; exact h i
  · rw [fs_n e]; exact W k' i h1 h2
theorem SQ_fs {u t : TS} {k : Nat} {g : Int → Int} (h : 23 ≤ k ∧ k ≠ 24) (e : SQ u t) : SQ (fs u k g) t := fun k' h' => by rw [fs_n (by omega)]; exact e k' h'
/-- the row of seeds doubled, from its end on down to k -/
def sdI (s : Int → Int) (r k : Int) : Int → Int := fun i => if 2 * k ≤ i ∧ i < 2 * r then (if i % 2 = 0 then s (i / 2) else 2 * r + 1 - s (i / 2)) else s i
theorem sdI_r {s : Int → Int} {r : Int} : sdI s r r = s := by
  funext i
  unfold sdI
  rw [if_neg (by omega)]
theorem sdI_s {s : Int → Int} {r k : Int} (h0 : 0 ≤ k) (h1 : k < r) : upZ (upZ (sdI s r (k + 1)) (2 * k) (s k)) (2 * k + 1) (2 * r + 1 - s k) = sdI s r k := by
  funext i
  unfold upZ sdI
  by_cases e1 : i = 2 * k + 1
  · rw [if_pos e1, if_pos (by omega), if_neg (by omega), show i / 2 = k by omega]
  rw [if_neg e1]
  by_cases e2 : i = 2 * k
  · rw [if_pos e2, if_pos (by omega), if_pos (by omega), show i / 2 = k by omega]
  rw [if_neg e2]
  by_cases e3 : 2 * (k + 1) ≤ i ∧ i < 2 * r
  · have e4 : 2 * k ≤ i ∧ i < 2 * r := by omega
    rw [if_pos e3, if_pos e4]
  · have e4 : ¬ (2 * k ≤ i ∧ i < 2 * r) := by omega
    rw [if_neg e3, if_neg e4]
def sq0 (s : Int → Int) : Nat → Int → Int
  | 0 => upZ s 0 1
  | d + 1 => sdI (sq0 s d) ((2 ^ d : Nat) : Int) 0
theorem p2 {d : Nat} : ((2 ^ (d + 1) : Nat) : Int) = 2 * ((2 ^ d : Nat) : Int) ∧ 1 ≤ ((2 ^ d : Nat) : Int) := by
  have h : 2 ^ (d + 1) = 2 * 2 ^ d := by rw [Nat.pow_succ, Nat.mul_comm]
  have g : 1 ≤ 2 ^ d := Nat.one_le_two_pow
  omega
theorem sq_rg {s : Int → Int} : ∀ (d : Nat) (i : Int), 0 ≤ i → i < ((2 ^ d : Nat) : Int) → 1 ≤ sq0 s d i ∧ sq0 s d i ≤ ((2 ^ d : Nat) : Int)
  | 0, i, h0, h1 => by
      have e : i = 0 := by have h2 : i < 1 := h1; omega
      subst e
      show 1 ≤ upZ s 0 1 0 ∧ upZ s 0 1 0 ≤ 1
      have : upZ s 0 1 0 = 1 := if_pos rfl
      omega
  | d + 1, i, h0, h1 => by
      obtain ⟨e, g⟩ := p2 (d := d)
      rw [e] at h1 ⊢
      have q := sq_rg (s := s) d (i / 2) (by omega) (by omega)
      show 1 ≤ sdI (sq0 s d) _ 0 i ∧ sdI (sq0 s d) _ 0 i ≤ _
      unfold sdI
      rw [if_pos (by omega)]
      split <;> omega
theorem sq_out {s : Int → Int} : ∀ (d : Nat) (i : Int), (i < 0 ∨ ((2 ^ d : Nat) : Int) ≤ i) → sq0 s d i = s i
  | 0, i, h => by
      have h2 : i < 0 ∨ 1 ≤ i := h
      show upZ s 0 1 i = s i
      exact if_neg (by omega)
  | d + 1, i, h => by
      obtain ⟨e, g⟩ := p2 (d := d)
      rw [e] at h
      show sdI (sq0 s d) _ 0 i = s i
      unfold sdI
      rw [if_neg (by omega)]
      exact sq_out d i (by omega)
/-- the row's length -/
def itd (F : Int) : Nat := if F ≤ 2 then 1 else if F ≤ 4 then 2 else if F ≤ 8 then 3 else 4
def its (F : Int) : Int := ((2 ^ itd F : Nat) : Int)
theorem its_e {F : Int} : its F = if F ≤ 2 then 2 else if F ≤ 4 then 4 else if F ≤ 8 then 8 else 16 := by
  unfold its itd
  split
  · rfl
  · split
    · rfl
    · split <;> rfl
def wz (g : Int → Int) (c : Int) : Int → Int := fun i => if 1 ≤ i ∧ i < c then -1 else g i
theorem wz_s {g : Int → Int} {c : Int} (h : 1 ≤ c) : upZ (wz g c) c (-1) = wz g (c + 1) := by
  funext i
  unfold upZ wz
  by_cases e : i = c
  · rw [if_pos e, if_pos (by omega)]
  · rw [if_neg e]
    by_cases e2 : 1 ≤ i ∧ i < c
    · have e3 : 1 ≤ i ∧ i < c + 1 := by omega
      rw [if_pos e2, if_pos e3]
    · have e3 : ¬ (1 ≤ i ∧ i < c + 1) := by omega
      rw [if_neg e2, if_neg e3]
theorem wz_1 {g : Int → Int} : wz g 1 = g := by
  funext i
  exact if_neg (by omega)
/-- the leaves, filled up to c -/
def wl (g v : Int → Int) (z c : Int) : Int → Int := fun i => if z ≤ i ∧ i < z + c then v (i - z) else g i
theorem wl_0 {g v : Int → Int} {z : Int} : wl g v z 0 = g := by
  funext i
  exact if_neg (by omega)
theorem wl_s {g v : Int → Int} {z c : Int} (h : 0 ≤ c) : upZ (wl g v z c) (z + c) (v c) = wl g v z (c + 1) := by
  funext i
  unfold upZ wl
  by_cases e : i = z + c
  · rw [if_pos e, if_pos (by omega), show i - z = c by omega]
  · rw [if_neg e]
    by_cases e2 : z ≤ i ∧ i < z + c
    · have e3 : z ≤ i ∧ i < z + (c + 1) := by omega
      rw [if_pos e2, if_pos e3]
    · have e3 : ¬ (z ≤ i ∧ i < z + (c + 1)) := by omega
      rw [if_neg e2, if_neg e3]
