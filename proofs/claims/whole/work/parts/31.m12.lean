/-! THE REFERENCE: the draw of the tableau -/
/-- a whole field put in place -/
def fs (τ : TS) (k : Nat) (g : Int → Int) : TS := fun k' => if k' = k then g else τ k'
theorem fs_s {τ : TS} {k : Nat} {g : Int → Int} : fs τ k g k = g := if_pos rfl
theorem fs_n {τ : TS} {k k' : Nat} {g : Int → Int} (h : k' ≠ k) : fs τ k g k' = τ k' := if_neg h
theorem ts_fs {τ : TS} {k : Nat} {g : Int → Int} {i x : Int} : ts (fs τ k g) k i x = fs τ k (upZ g i x) := by
  funext k'
  by_cases h : k' = k
  · subst h; rw [ts_s, fs_s, fs_s]
  · rw [ts_n h, fs_n h, fs_n h]
theorem fs_id {τ : TS} {k : Nat} : fs τ k (τ k) = τ := by
  funext k'
  by_cases h : k' = k
  · subst h; rw [fs_s]
  · rw [fs_n h]
theorem ts_as {τ : TS} {k : Nat} {i x : Int} : ts τ k i x = fs τ k (upZ (τ k) i x) := by
  rw [← ts_fs, fs_id]
theorem WF_fs {τ : TS} {k : Nat} {g : Int → Int} (W : WF τ) (h : ∀ i, (bnd k).1 ≤ g i ∧ g i ≤ (bnd k).2) : WF (fs τ k g) := by
  intro k' i h1 h2
  by_cases e : k' = k
  · subst e; rw [fs_s]; exact h i
  · rw [fs_n e]; exact W k' i h1 h2
theorem SQ_fs {u t : TS} {k : Nat} {g : Int → Int} (h : 23 ≤ k ∧ k ≠ 24) (e : SQ u t) : SQ (fs u k g) t := fun k' h' => by rw [fs_n (by omega)]; exact e k' h'
/-- the row of seeds doubled, from its end on down to k -/
def sdI (s : Int → Int) (r k : Int) : Int → Int := fun i => if 2 * k ≤ i ∧ i < 2 * r then (if i % 2 = 0 then s (i / 2) else 2 * r + 1 - s (i / 2)) else s i
theorem sdI_r {s : Int → Int} {r : Int} : sdI s r r = s := by
  funext i
  unfold sdI
  rw [if_neg (by omega)]
theorem sdI_s {s : Int → Int} {r k : Int} (h0 : 0 ≤ k) (h1 : k < r) : upZ (upZ (sdI s r (k + 1)) (2 * k) (s k)) (2 * k + 1) (2 * r + 1 - s k) = sdI s r k := by
  funext i
  unfold upZ sdI
  by_cases e1 : i = 2 * k + 1
  · rw [if_pos e1, if_pos (by omega), if_neg (by omega), show i / 2 = k by omega]
  rw [if_neg e1]
  by_cases e2 : i = 2 * k
  · rw [if_pos e2, if_pos (by omega), if_pos (by omega), show i / 2 = k by omega]
  rw [if_neg e2]
  by_cases e3 : 2 * (k + 1) ≤ i ∧ i < 2 * r
  · have e4 : 2 * k ≤ i ∧ i < 2 * r := by omega
    rw [if_pos e3, if_pos e4]
  · have e4 : ¬ (2 * k ≤ i ∧ i < 2 * r) := by omega
    rw [if_neg e3, if_neg e4]
def sq0 (s : Int → Int) : Nat → Int → Int
  | 0 => upZ s 0 1
  | d + 1 => sdI (sq0 s d) ((2 ^ d : Nat) : Int) 0
theorem p2 {d : Nat} : ((2 ^ (d + 1) : Nat) : Int) = 2 * ((2 ^ d : Nat) : Int) ∧ 1 ≤ ((2 ^ d : Nat) : Int) := by
  have h : 2 ^ (d + 1) = 2 * 2 ^ d := by rw [Nat.pow_succ, Nat.mul_comm]
  have g : 1 ≤ 2 ^ d := Nat.one_le_two_pow
  omega
theorem sq_rg {s : Int → Int} : ∀ (d : Nat) (i : Int), 0 ≤ i → i < ((2 ^ d : Nat) : Int) → 1 ≤ sq0 s d i ∧ sq0 s d i ≤ ((2 ^ d : Nat) : Int)
  | 0, i, h0, h1 => by
      have e : i = 0 := by have h2 : i < 1 := h1; omega
      subst e
      show 1 ≤ upZ s 0 1 0 ∧ upZ s 0 1 0 ≤ 1
      have : upZ s 0 1 0 = 1 := if_pos rfl
      omega
  | d + 1, i, h0, h1 => by
      obtain ⟨e, g⟩ := p2 (d := d)
      rw [e] at h1 ⊢
      have q := sq_rg (s := s) d (i / 2) (by omega) (by omega)
      show 1 ≤ sdI (sq0 s d) _ 0 i ∧ sdI (sq0 s d) _ 0 i ≤ _
      unfold sdI
      rw [if_pos (by omega)]
      split <;> omega
theorem sq_out {s : Int → Int} : ∀ (d : Nat) (i : Int), (i < 0 ∨ ((2 ^ d : Nat) : Int) ≤ i) → sq0 s d i = s i
  | 0, i, h => by
      have h2 : i < 0 ∨ 1 ≤ i := h
      show upZ s 0 1 i = s i
      exact if_neg (by omega)
  | d + 1, i, h => by
      obtain ⟨e, g⟩ := p2 (d := d)
      rw [e] at h
      show sdI (sq0 s d) _ 0 i = s i
      unfold sdI
      rw [if_neg (by omega)]
      exact sq_out d i (by omega)
/-- the row's length -/
def itd (F : Int) : Nat := if F ≤ 2 then 1 else if F ≤ 4 then 2 else if F ≤ 8 then 3 else 4
def its (F : Int) : Int := ((2 ^ itd F : Nat) : Int)
theorem its_e {F : Int} : its F = if F ≤ 2 then 2 else if F ≤ 4 then 4 else if F ≤ 8 then 8 else 16 := by
  unfold its itd
  split
  · rfl
  · split
    · rfl
    · split <;> rfl
set_option maxRecDepth 100000 in
set_option maxHeartbeats 4000000 in
theorem dt_s {X : GX} {h : LH} {τ : TS} {k n : Nat} {Q : LO → LH → Prop} {r : Int} {s : Int → Int} (hr : 1 ≤ r ∧ r ≤ 8) {n1 : Int} : ∀ (m : Nat) (c : Int), c + 1 = m → c < r → J X mX8_drawTableau 127 [some (vR (some (20, 0))), some (vI (iI n1)), some (vI (iI r)), none] [] (hm h (fs τ 28 (sdI s r 0))) k n Q → J X mX8_drawTableau 79 [some (vR (some (20, 0))), some (vI (iI n1)), some (vI (iI r)), some (vI (iI c))] [] (hm h (fs τ 28 (sdI s r (c + 1)))) k n Q := by
  intro m
  induction m with
  | zero =>
    intro c h0 h1 kk
    have e0 : c + 1 = 0 := by omega
    rw [e0]
    refine J_iload_n (M := mX8_drawTableau) dX8_drawTableau_79 rfl rfl ?_
    refine Z_if_lt (M := mX8_drawTableau) (tgt := 127) (by first | assumption | exact pI_rg _ | (unfold rg; omega)) dX8_drawTableau_80 (by decide) (fun c_80 => ?_) (fun c_80 => ?_)
    · exact J_sub kk (And.intro rfl (And.intro rfl (And.intro rfl trivial)))
    · omega
  | succ m ih =>
    intro c h0 h1 kk
    have ec : sdI s r (c + 1) c = s c := by unfold sdI; exact if_neg (by omega)
    have kk2 := ih (c - 1) (by omega) (by omega) kk
    rw [show c - 1 + 1 = c by omega, ← sdI_s (s := s) (by omega : 0 ≤ c) h1, ← ts_fs, ← ts_fs] at kk2
    refine J_iload_n (M := mX8_drawTableau) dX8_drawTableau_79 rfl rfl ?_
    refine Z_if_lt (M := mX8_drawTableau) (tgt := 127) (by first | assumption | exact pI_rg _ | (unfold rg; omega)) dX8_drawTableau_80 (by decide) (fun c_80 => ?_) (fun c_80 => ?_)
    · omega
    · refine J_aload_n (M := mX8_drawTableau) dX8_drawTableau_83 rfl rfl ?_
      refine M_get (M := mX8_drawTableau) (v := vR (some (68, 0))) dX8_drawTableau_84 fi_X8_60 rfl ?_
      refine Z_iconst (M := mX8_drawTableau) dX8_drawTableau_87 ?_
      refine J_iload_n (M := mX8_drawTableau) dX8_drawTableau_88 rfl rfl ?_
      refine Z_imul (M := mX8_drawTableau) dX8_drawTableau_89 ?_
      refine J_aload_n (M := mX8_drawTableau) dX8_drawTableau_90 rfl rfl ?_
      refine M_get (M := mX8_drawTableau) (v := vR (some (68, 0))) dX8_drawTableau_91 fi_X8_60 rfl ?_
      refine J_iload_n (M := mX8_drawTableau) dX8_drawTableau_94 rfl rfl ?_
      refine M_iald (M := mX8_drawTableau) (kf := 28) (N := 16) dX8_drawTableau_95 rfl (by decide) (by omega) (by omega) ?_
      refine Z_eq (M := mX8_drawTableau) (b := s c) ec ?_
      refine M_iast (M := mX8_drawTableau) (kf := 28) (N := 16) dX8_drawTableau_96 rfl rfl rfl rfl (by decide) (by decide) (by omega) (by omega) ?_
      refine J_aload_n (M := mX8_drawTableau) dX8_drawTableau_97 rfl rfl ?_
      refine M_get (M := mX8_drawTableau) (v := vR (some (68, 0))) dX8_drawTableau_98 fi_X8_60 rfl ?_
      refine Z_iconst (M := mX8_drawTableau) dX8_drawTableau_101 ?_
      refine J_iload_n (M := mX8_drawTableau) dX8_drawTableau_102 rfl rfl ?_
      refine Z_imul (M := mX8_drawTableau) dX8_drawTableau_103 ?_
      refine Z_iconst (M := mX8_drawTableau) dX8_drawTableau_104 ?_
      refine Z_iadd (M := mX8_drawTableau) dX8_drawTableau_105 ?_
      refine Z_iconst (M := mX8_drawTableau) dX8_drawTableau_106 ?_
      refine J_iload_n (M := mX8_drawTableau) dX8_drawTableau_107 rfl rfl ?_
      refine Z_imul (M := mX8_drawTableau) dX8_drawTableau_108 ?_
      refine Z_iconst (M := mX8_drawTableau) dX8_drawTableau_109 ?_
      refine Z_iadd (M := mX8_drawTableau) dX8_drawTableau_110 ?_
      refine J_aload_n (M := mX8_drawTableau) dX8_drawTableau_111 rfl rfl ?_
      refine M_get (M := mX8_drawTableau) (v := vR (some (68, 0))) dX8_drawTableau_112 fi_X8_60 rfl ?_
      refine Z_iconst (M := mX8_drawTableau) dX8_drawTableau_115 ?_
      refine J_iload_n (M := mX8_drawTableau) dX8_drawTableau_116 rfl rfl ?_
      refine Z_imul (M := mX8_drawTableau) dX8_drawTableau_117 ?_
      refine M_iald (M := mX8_drawTableau) (kf := 28) (N := 16) dX8_drawTableau_118 rfl (by decide) (by omega) (by omega) ?_
      refine Z_eq (M := mX8_drawTableau) (b := s c) (by show upZ _ _ _ _ = _; exact if_pos rfl) ?_
      refine Z_isub (M := mX8_drawTableau) dX8_drawTableau_119 ?_
      refine M_iast (M := mX8_drawTableau) (kf := 28) (N := 16) dX8_drawTableau_120 rfl rfl rfl rfl (by decide) (by decide) (by omega) (by omega) ?_
      refine Z_iinc (M := mX8_drawTableau) dX8_drawTableau_121 rfl (by decide) ?_
      refine J_goto (M := mX8_drawTableau) (tgt := 79) dX8_drawTableau_124 (by decide) ?_
      exact J_sub kk2 (And.intro rfl (And.intro rfl (And.intro rfl (And.intro (vz (by omega)) trivial))))

set_option maxRecDepth 100000 in
set_option maxHeartbeats 4000000 in
theorem dt_r {X : GX} {h : LH} {τ : TS} {k n : Nat} {Q : LO → LH → Prop} {e : Nat} {s : Int → Int} (he : e ≤ 4) : ∀ (m d : Nat), d + m = e → J X mX8_drawTableau 134 [some (vR (some (20, 0))), some (vI (iI ((2 ^ e : Nat) : Int))), none, none] [] (hm h (fs τ 28 (sq0 s e))) k n Q → J X mX8_drawTableau 70 [some (vR (some (20, 0))), some (vI (iI ((2 ^ e : Nat) : Int))), some (vI (iI ((2 ^ d : Nat) : Int))), none] [] (hm h (fs τ 28 (sq0 s d))) k n Q := by
  intro m
  have h16 : (2 ^ e : Nat) ≤ 16 := by
    have := Nat.pow_le_pow_right (show 0 < 2 by decide) he
    exact this
  have h1 : (1 : Nat) ≤ 2 ^ e := Nat.one_le_two_pow
  induction m with
  | zero =>
    intro d hd kk
    have e0 : d = e := by omega
    subst e0
    refine J_iload_n (M := mX8_drawTableau) dX8_drawTableau_70 rfl rfl ?_
    refine J_iload_n (M := mX8_drawTableau) dX8_drawTableau_71 rfl rfl ?_
    refine Z_ic_ge (M := mX8_drawTableau) (tgt := 134) (by first | assumption | exact pI_rg _ | (unfold rg; omega)) (by first | assumption | exact pI_rg _ | (unfold rg; omega)) dX8_drawTableau_72 (by decide) (fun c_72 => ?_) (fun c_72 => ?_)
    · exact J_sub kk (And.intro rfl (And.intro rfl trivial))
    · omega
  | succ m ih =>
    intro d hd kk
    have kk2 := ih (d + 1) (by omega) kk
    obtain ⟨p1, p2⟩ := p2 (d := d)
    have hlt : (2 ^ d : Nat) < 2 ^ e := Nat.pow_lt_pow_right (by decide) (by omega)
    have hle : (2 ^ (d + 1) : Nat) ≤ 2 ^ e := Nat.pow_le_pow_right (by decide) (by omega)
    have en : sq0 s (d + 1) = sdI (sq0 s d) ((2 ^ d : Nat) : Int) 0 := rfl
    rw [en, p1] at kk2
    have hr : 1 ≤ ((2 ^ d : Nat) : Int) ∧ ((2 ^ d : Nat) : Int) ≤ 8 := by omega
    have hr2 : ((2 ^ d : Nat) : Int) < ((2 ^ e : Nat) : Int) := by omega
    have h16' : ((2 ^ e : Nat) : Int) ≤ 16 := by omega
    clear hlt hle p1 p2
    generalize ((2 ^ d : Nat) : Int) = r at *
    generalize ((2 ^ e : Nat) : Int) = z at *
    refine J_iload_n (M := mX8_drawTableau) dX8_drawTableau_70 rfl rfl ?_
    refine J_iload_n (M := mX8_drawTableau) dX8_drawTableau_71 rfl rfl ?_
    refine Z_ic_ge (M := mX8_drawTableau) (tgt := 134) (by first | assumption | exact pI_rg _ | (unfold rg; omega)) (by first | assumption | exact pI_rg _ | (unfold rg; omega)) dX8_drawTableau_72 (by decide) (fun c_72 => ?_) (fun c_72 => ?_)
    · omega
    · refine J_iload_n (M := mX8_drawTableau) dX8_drawTableau_75 rfl rfl ?_
      refine Z_iconst (M := mX8_drawTableau) dX8_drawTableau_76 ?_
      refine Z_isub (M := mX8_drawTableau) dX8_drawTableau_77 ?_
      refine J_istore_n (M := mX8_drawTableau) dX8_drawTableau_78 rfl (by decide) ?_
      rw [← sdI_r (s := sq0 s d) (r := r)]
      have e7 : r = r - 1 + 1 := by omega
      refine Z_h (M := mX8_drawTableau) (h' := hm h (fs τ 28 (sdI (sq0 s d) r (r - 1 + 1)))) (by rw [← e7]) ?_
      refine J_sub (M := mX8_drawTableau) (dt_s (n1 := z) hr r.toNat (r - 1) (by omega) (by omega) ?_) (And.intro rfl (And.intro rfl (And.intro rfl (And.intro rfl trivial))))
      refine J_iload_n (M := mX8_drawTableau) dX8_drawTableau_127 rfl rfl ?_
      refine Z_iconst (M := mX8_drawTableau) dX8_drawTableau_128 ?_
      refine Z_imul (M := mX8_drawTableau) dX8_drawTableau_129 ?_
      refine J_istore_n (M := mX8_drawTableau) dX8_drawTableau_130 rfl (by decide) ?_
      refine J_goto (M := mX8_drawTableau) (tgt := 70) dX8_drawTableau_131 (by decide) ?_
      exact J_sub kk2 (And.intro rfl (And.intro rfl (And.intro (vz (by omega)) trivial)))
      

def wz (g : Int → Int) (c : Int) : Int → Int := fun i => if 1 ≤ i ∧ i < c then -1 else g i
theorem wz_s {g : Int → Int} {c : Int} (h : 1 ≤ c) : upZ (wz g c) c (-1) = wz g (c + 1) := by
  funext i
  unfold upZ wz
  by_cases e : i = c
  · rw [if_pos e, if_pos (by omega)]
  · rw [if_neg e]
    by_cases e2 : 1 ≤ i ∧ i < c
    · have e3 : 1 ≤ i ∧ i < c + 1 := by omega
      rw [if_pos e2, if_pos e3]
    · have e3 : ¬ (1 ≤ i ∧ i < c + 1) := by omega
      rw [if_neg e2, if_neg e3]
theorem wz_1 {g : Int → Int} : wz g 1 = g := by
  funext i
  exact if_neg (by omega)
/-- the leaves, filled up to c -/
def wl (g v : Int → Int) (z c : Int) : Int → Int := fun i => if z ≤ i ∧ i < z + c then v (i - z) else g i
theorem wl_0 {g v : Int → Int} {z : Int} : wl g v z 0 = g := by
  funext i
  exact if_neg (by omega)
theorem wl_s {g v : Int → Int} {z c : Int} (h : 0 ≤ c) : upZ (wl g v z c) (z + c) (v c) = wl g v z (c + 1) := by
  funext i
  unfold upZ wl
  by_cases e : i = z + c
  · rw [if_pos e, if_pos (by omega), show i - z = c by omega]
  · rw [if_neg e]
    by_cases e2 : z ≤ i ∧ i < z + c
    · have e3 : z ≤ i ∧ i < z + (c + 1) := by omega
      rw [if_pos e2, if_pos e3]
    · have e3 : ¬ (z ≤ i ∧ i < z + (c + 1)) := by omega
      rw [if_neg e2, if_neg e3]
set_option maxRecDepth 100000 in
set_option maxHeartbeats 4000000 in
theorem dt_w {X : GX} {h : LH} {τ : TS} {k n : Nat} {Q : LO → LH → Prop} {z : Int} {g : Int → Int} (hz : 1 ≤ z ∧ z ≤ 16) : ∀ (m : Nat) (c : Int), 1 ≤ c → c + m = z → J X mX8_drawTableau 154 [some (vR (some (20, 0))), some (vI (iI z)), none, none] [] (hm h (fs τ 22 (wz g z))) k n Q → J X mX8_drawTableau 136 [some (vR (some (20, 0))), some (vI (iI z)), none, some (vI (iI c))] [] (hm h (fs τ 22 (wz g c))) k n Q := by
  intro m
  induction m with
  | zero =>
    intro c h0 h1 kk
    have e0 : c = z := by omega
    subst e0
    refine J_iload_n (M := mX8_drawTableau) dX8_drawTableau_136 rfl rfl ?_
    refine J_iload_n (M := mX8_drawTableau) dX8_drawTableau_137 rfl rfl ?_
    refine Z_ic_ge (M := mX8_drawTableau) (tgt := 154) (by first | assumption | exact pI_rg _ | (unfold rg; omega)) (by first | assumption | exact pI_rg _ | (unfold rg; omega)) dX8_drawTableau_138 (by decide) (fun c_138 => ?_) (fun c_138 => ?_)
    · exact J_sub kk (And.intro rfl (And.intro rfl trivial))
    · omega
  | succ m ih =>
    intro c h0 h1 kk
    have kk2 := ih (c + 1) (by omega) (by omega) kk
    rw [← wz_s h0, ← ts_fs] at kk2
    refine J_iload_n (M := mX8_drawTableau) dX8_drawTableau_136 rfl rfl ?_
    refine J_iload_n (M := mX8_drawTableau) dX8_drawTableau_137 rfl rfl ?_
    refine Z_ic_ge (M := mX8_drawTableau) (tgt := 154) (by first | assumption | exact pI_rg _ | (unfold rg; omega)) (by first | assumption | exact pI_rg _ | (unfold rg; omega)) dX8_drawTableau_138 (by decide) (fun c_138 => ?_) (fun c_138 => ?_)
    · omega
    · refine J_aload_n (M := mX8_drawTableau) dX8_drawTableau_141 rfl rfl ?_
      refine M_get (M := mX8_drawTableau) (v := vR (some (62, 0))) dX8_drawTableau_142 fi_X8_54 rfl ?_
      refine J_iload_n (M := mX8_drawTableau) dX8_drawTableau_145 rfl rfl ?_
      refine Z_iconst (M := mX8_drawTableau) dX8_drawTableau_146 ?_
      refine M_iast (M := mX8_drawTableau) (kf := 22) (N := 32) dX8_drawTableau_147 rfl rfl rfl rfl (by decide) (by decide) (by omega) (by omega) ?_
      refine Z_iinc (M := mX8_drawTableau) dX8_drawTableau_148 rfl (by decide) ?_
      refine J_goto (M := mX8_drawTableau) (tgt := 136) dX8_drawTableau_151 (by decide) ?_
      exact J_sub kk2 (And.intro rfl (And.intro rfl (And.intro rfl trivial)))

