/-! THE LAW: a phrase, told by what is judged of it -/
theorem jr_fs {τ : TS} {ph r : Int} : jr τ ph r = jd (fs τ 14 (fun _ => r)) ph := rfl
theorem jr_E {τ' τ : TS} {f0 f r : Int} (E : EQP τ' τ f0) (W : WF τ) (hr : -2 ≤ r ∧ r ≤ 1) (hf : 0 ≤ f) (h : ¬ f = f0) : jr τ' f r = jr τ f r := by
  rw [jr_fs, jr_fs]
  exact jd_E (f0 := f0) ⟨E.1, E.2.1, E.2.2.1, fun q hq => ⟨(E.2.2.2.1 q hq).1, rfl⟩, E.2.2.2.2.1, E.2.2.2.2.2⟩ (WF_fs W (fun _ => hr)) hf h
theorem jr_rg {τ : TS} {ph r : Int} (W : WF τ) (hr : -2 ≤ r ∧ r ≤ 1) (hph : 0 ≤ ph) : 0 ≤ jr τ ph r ∧ jr τ ph r ≤ 3 := by
  rw [jr_fs]
  exact jd_rg (WF_fs W (fun _ => hr)) hph
theorem lit_sh {F : Int} {c cc : Int → Int} {e e' : Int} (h : c e' = cc e) : litF F c e' ↔ litF F cc e := by
  unfold litF cntF
  rw [h]
theorem jl_sh {F : Int} {c cc : Int → Int} {f : Int} (hf : 0 ≤ f) (B : ∀ i, 0 ≤ cc i ∧ cc i ≤ 6) : ∀ i : Nat, (∀ e : Int, 0 ≤ e → e < i → c (f + e) = cc e) → jl F c f i = ((if (jl F cc 0 i).1 = -1 then -1 else f + (jl F cc 0 i).1), (jl F cc 0 i).2)
  | 0, _ => rfl
  | i + 1, h => by
    have ih := jl_sh (F := F) hf B i (fun e a b => h e a (by omega))
    have hi := h i (by omega) (by omega)
    have hl := lit_sh (F := F) hi
    by_cases e : (jl F cc 0 i).1 = -1
    · have e1 : (jl F c f i).1 = -1 := by rw [ih]; exact if_pos e
      have e2 := jl_su e1
      have e3 := jl_su e
      rw [Int.zero_add] at e3
      have e4 : (jl F c f i).2 = (jl F cc 0 i).2 := by rw [ih]
      have e5 : (if 4 ≤ c (f + i) then c (f + i) - 5 else (jl F cc 0 i).2) = (if 4 ≤ cc i then cc i - 5 else (jl F cc 0 i).2) := by rw [hi]
      rw [e2, e3, e4, e5]
      dsimp only
      by_cases q : litF F cc i
      · rw [if_pos (hl.mpr q), if_pos q, if_neg (show ¬ (i : Int) = -1 by omega)]
      · rw [if_neg (fun z => q (hl.mp z)), if_neg q, if_pos rfl]
    · have hin := (jl_in (F := F) (c := cc) (f := 0) (Int.le_refl 0) B i).1.resolve_left e
      have e1 : ¬ (jl F c f i).1 = -1 := by
        rw [ih]
        show ¬ (if (jl F cc 0 i).1 = -1 then -1 else f + (jl F cc 0 i).1) = -1
        rw [if_neg e]
        omega
      rw [jl_stay e1 1, jl_stay e 1]
      exact ih
theorem js_sh {F : Int} {c cc : Int → Int} {s f l : Int} (hf : 0 ≤ f) (hl : 0 ≤ l) : ∀ i : Nat, (∀ e : Int, l < e → e < l + 1 + i → c (f + e) = cc e) → js F c s (f + l) i = if js F cc s l i = -1 then -1 else f + js F cc s l i
  | 0, _ => rfl
  | i + 1, h => by
    have ih := js_sh (F := F) (s := s) hf hl i (fun e a b => h e a (by omega))
    have hi := h (l + 1 + i) (by omega) (by omega)
    have ei : f + l + 1 + (i : Int) = f + (l + 1 + i) := by omega
    have hq : cntF F c (f + l + 1 + i) (1 - s) ↔ cntF F cc (l + 1 + i) (1 - s) := by
      unfold cntF
      rw [ei, hi]
    by_cases e : js F cc s l i = -1
    · have e1 : js F c s (f + l) i = -1 := by rw [ih]; exact if_pos e
      rw [js_su e1, js_su e]
      by_cases q : cntF F cc (l + 1 + i) (1 - s)
      · rw [if_pos (hq.mpr q), if_pos q, if_neg (by omega), ei]
      · rw [if_neg (fun z => q (hq.mp z)), if_neg q, if_pos rfl]
    · have hin := (js_in (F := F) (c := cc) (s := s) (f := l) hl i).resolve_left e
      have e1 : ¬ js F c s (f + l) i = -1 := by rw [ih, if_neg e]; omega
      have s1 := js_stay e1 1
      have s2 := js_stay e 1
      rw [s1, s2]
      exact ih
theorem J8_jr {u : TS} {ph n r : Int} {cc tt : Int → Int} (hph : 0 ≤ ph) (h12 : u 12 ph = n) (hn : 0 ≤ n) (B : ∀ i, 0 ≤ cc i ∧ cc i ≤ 6) (h : ∀ i, 0 ≤ i → i < n → u 15 (8 * ph + i) = cc i ∧ u 16 (8 * ph + i) = tt i) : jr u ph r = J8 (u 0 0) n cc tt r := by
  have e1 := jl_sh (F := u 0 0) (c := u 15) (cc := cc) (f := 8 * ph) (by omega) B n.toNat (fun e a b => (h e a (by omega)).1)
  have hin := (jl_in (F := u 0 0) (c := cc) (f := 0) (Int.le_refl 0) B n.toNat).1
  unfold jr jdF J8
  rw [h12, e1]
  dsimp only
  by_cases q : (jl (u 0 0) cc 0 n.toNat).1 = -1
  · rw [if_pos q, if_pos rfl, if_pos q]
  · obtain ⟨i1, i2, -⟩ := hin.resolve_left q
    rw [if_neg q, if_neg (show ¬ 8 * ph + (jl (u 0 0) cc 0 n.toNat).1 = -1 by omega), if_neg q]
    generalize (jl (u 0 0) cc 0 n.toNat).1 = l at i1 i2
    generalize (jl (u 0 0) cc 0 n.toNat).2 = rr
    obtain ⟨c1, c2⟩ := h l i1 (by omega)
    rw [c1, c2]
    have en : (8 * ph + n - (8 * ph + l) - 1).toNat = (n - l - 1).toNat := by congr 1; omega
    rw [en]
    have e2 := js_sh (F := u 0 0) (c := u 15) (cc := cc) (s := cc l / 2) (f := 8 * ph) (l := l) (by omega) i1 (n - l - 1).toNat (fun e a b => (h e (by omega) (by omega)).1)
    rw [e2]
    have hjn := js_in (F := u 0 0) (c := cc) (s := cc l / 2) (f := l) i1 (n - l - 1).toNat
    generalize js (u 0 0) cc (cc l / 2) l (n - l - 1).toNat = y at hjn
    by_cases q2 : y = -1
    · rw [if_pos q2, if_pos (Or.inl rfl), if_pos (Or.inl q2)]
    · obtain ⟨k1, k2, -⟩ := hjn.resolve_left q2
      obtain ⟨d1, d2⟩ := h y (by omega) (by omega)
      rw [if_neg q2, d2]
      have hm : ((8 * ph + y = -1) ∨ (if u 0 0 = 0 then 40 else 300) < tt y - tt l) ↔ (y = -1 ∨ (if u 0 0 = 0 then 40 else 300) < tt y - tt l) := by
        constructor
        · rintro (z | z)
          · omega
          · exact Or.inr z
        · rintro (z | z)
          · omega
          · exact Or.inr z
      by_cases q3 : y = -1 ∨ (if u 0 0 = 0 then 40 else 300) < tt y - tt l
      · rw [if_pos (hm.mpr q3), if_pos q3]
      · rw [if_neg (fun z => q3 (hm.mp z)), if_neg q3]
        generalize (if r = -2 then rr else r) = r2
        by_cases q4 : r2 = cc l / 2
        · rw [if_pos q4, if_pos q4, c1]
        · rw [if_neg q4, if_neg q4, d1]
theorem J8_had {F n : Int} {c t : Int → Int} (B : ∀ i, 0 ≤ c i ∧ c i ≤ 6) : ∃ r, (r = -1 ∨ r = 0 ∨ r = 1) ∧ J8 F n c t (-2) = J8 F n c t r := by
  have hin := (jl_in (F := F) (c := c) (f := 0) (Int.le_refl 0) B n.toNat).2
  refine ⟨(jl F c 0 n.toNat).2, by omega, ?_⟩
  unfold J8
  dsimp only
  rw [if_pos (show (-2 : Int) = -2 from rfl), if_neg (show ¬ (jl F c 0 n.toNat).2 = -2 by omega)]
/-- a phrase begins -/
def aT (τ : TS) : TS := ts (ts (ts (ts (ts (ts τ 12 (la τ) 0) 13 (2 * (la τ)) (τ 18 0)) 13 (2 * (la τ) + 1) (τ 18 1)) 14 (la τ) (-2)) 19 0 1) 20 0 0
/-- it ends -/
def fT (u : TS) : TS := ts (ts (ts u 10 (slo (u 17 0)) (u 10 (slo (u 17 0)) + 1)) 19 0 0) 20 0 1
/-- n events have been told -/
def EVS (a u : TS) (ph n : Int) (cc tt : Int → Int) : Prop := (∀ k, ¬ (k = 12 ∨ k = 15 ∨ k = 16) → u k = a k) ∧ (∀ q, ¬ q = ph → u 12 q = a 12 q) ∧ u 12 ph = n ∧ (∀ q, (q < 8 * ph ∨ 8 * ph + 7 < q) → u 15 q = a 15 q ∧ u 16 q = a 16 q) ∧ ∀ i, 0 ≤ i → i < n → u 15 (8 * ph + i) = cc i ∧ u 16 (8 * ph + i) = tt i
theorem aT_k {τ : TS} {k : Nat} (h : ¬ (k = 12 ∨ k = 13 ∨ k = 14 ∨ k = 19 ∨ k = 20)) : aT τ k = τ k := by
  unfold aT
  rw [ts_n (by omega), ts_n (by omega), ts_n (by omega), ts_n (by omega), ts_n (by omega), ts_n (by omega)]
theorem EVS_0 {τ : TS} {cc tt : Int → Int} : EVS (aT τ) (aT τ) (la τ) 0 cc tt := ⟨fun _ _ => rfl, fun _ _ => rfl, if_pos rfl, fun _ _ => ⟨rfl, rfl⟩, fun i a b => absurd a (by omega)⟩
theorem la_EVS {τ u : TS} {ph n : Int} {cc tt : Int → Int} (E : EVS (aT τ) u ph n cc tt) : la u = la τ := by
  unfold la
  rw [E.1 17 (by decide), E.1 10 (by decide), aT_k (k := 17) (by decide), aT_k (k := 10) (by decide)]
theorem EVS_s {a u : TS} {ph n x t : Int} {cc tt : Int → Int} (E : EVS a u ph n cc tt) (hla : la u = ph) (hn : 0 ≤ n ∧ n < 8) : EVS a (evt u x t) ph (n + 1) (upZ cc n x) (upZ tt n t) := by
  obtain ⟨e1, e2, e3, e4, e5⟩ := E
  have h12 : evt u x t 12 = upZ (u 12) ph (n + 1) := by
    unfold evt
    rw [hla, ts_s, ts_n (by decide), ts_n (by decide), e3]
  have h15 : evt u x t 15 = upZ (u 15) (8 * ph + n) x := by
    unfold evt
    rw [hla, e3, ts_n (by decide), ts_n (by decide), ts_s]
  have h16 : evt u x t 16 = upZ (u 16) (8 * ph + n) t := by
    unfold evt
    rw [hla, e3, ts_n (by decide), ts_s, ts_n (by decide)]
  refine ⟨fun k hk => ?_, fun q hq => ?_, ?_, fun q hq => ?_, fun i i0 i1 => ?_⟩
  · unfold evt
    rw [ts_n (by omega), ts_n (by omega), ts_n (by omega)]
    exact e1 k hk
  · rw [h12]
    unfold upZ
    rw [if_neg hq]
    exact e2 q hq
  · rw [h12]
    exact if_pos rfl
  · rw [h15, h16]
    unfold upZ
    rw [if_neg (by omega), if_neg (by omega)]
    exact e4 q hq
  · rw [h15, h16]
    unfold upZ
    by_cases q : i = n
    · have q1 : 8 * ph + i = 8 * ph + n := by omega
      rw [if_pos q1, if_pos q1, if_pos q, if_pos q]
      exact ⟨rfl, rfl⟩
    · have q1 : ¬ 8 * ph + i = 8 * ph + n := by omega
      rw [if_neg q1, if_neg q1, if_neg q, if_neg q]
      exact e5 i i0 (by omega)
theorem EVS_cg {a u : TS} {ph n : Int} {cc tt cc' tt' : Int → Int} (E : EVS a u ph n cc tt) (h : ∀ i, 0 ≤ i → i < n → cc' i = cc i ∧ tt' i = tt i) : EVS a u ph n cc' tt' := by
  obtain ⟨e1, e2, e3, e4, e5⟩ := E
  refine ⟨e1, e2, e3, e4, fun i i0 i1 => ?_⟩
  obtain ⟨q1, q2⟩ := h i i0 i1
  rw [q1, q2]
  exact e5 i i0 i1
/-- the states around the phrase -/
theorem EQP_f {τ u : TS} {n : Int} {cc tt : Int → Int} (E : EVS (aT τ) u (la τ) n cc tt) : EQP (fT u) τ (la τ) := by
  obtain ⟨e1, e2, e3, e4, e5⟩ := E
  have fk : ∀ k, ¬ (k = 10 ∨ k = 19 ∨ k = 20) → fT u k = u k := fun k h => by
    unfold fT
    rw [ts_n (by omega), ts_n (by omega), ts_n (by omega)]
  refine ⟨?_, ?_, ?_, fun f hf => ⟨?_, ?_⟩, fun z hz => ?_, fun z hz => ?_⟩
  · rw [fk 0 (by decide), e1 0 (by decide), aT_k (by decide)]
  · rw [fk 3 (by decide), e1 3 (by decide), aT_k (by decide)]
  · rw [fk 4 (by decide), e1 4 (by decide), aT_k (by decide)]
  · rw [fk 12 (by decide), e2 f hf]
    show upZ (τ 12) (la τ) 0 f = τ 12 f
    exact if_neg hf
  · rw [fk 14 (by decide), e1 14 (by decide)]
    show upZ (τ 14) (la τ) (-2) f = τ 14 f
    exact if_neg hf
  · rw [fk 13 (by decide), e1 13 (by decide)]
    show upZ (upZ (τ 13) (2 * la τ) (τ 18 0)) (2 * la τ + 1) (τ 18 1) z = τ 13 z
    unfold upZ
    rw [if_neg (by omega), if_neg (by omega)]
  · rw [fk 15 (by decide), fk 16 (by decide), (e4 z hz).1, (e4 z hz).2, aT_k (k := 15) (by decide), aT_k (k := 16) (by decide)]
    exact ⟨rfl, rfl⟩
/-- sixteen bits are written, and read -/
theorem lb_new {π : Int → Int64} {b j : Int} {A : Nat} (hj : 0 ≤ j) (hA : A < 65536) {f m : Nat} (hf : f + m ≤ 16) : lb (upL π (3 * b + j / 4) (pt (π (3 * b + j / 4)) (16 * (j % 4)) 65535 A)) b j f m = ((A / 2 ^ f % 2 ^ m : Nat) : Int) := by
  unfold lb upL
  rw [if_pos rfl]
  obtain ⟨q, hq⟩ : ∃ q : Nat, j % 4 = q := ⟨(j % 4).toNat, by omega⟩
  have hq4 : q < 4 := by omega
  rw [hq]
  have e := pt_in (x := π (3 * b + j / 4)) (S := 16 * q) (n := 16) (A := A) (f := f) (m := m) (by omega) (by omega) (by decide) hA hf
  rw [show (16 * (q : Int) + (f : Int)).toNat = 16 * q + f by omega, show ((m : Int)).toNat = m from rfl, show (16 * (q : Int)) = ((16 * q : Nat) : Int) by push_cast; rfl]
  exact e
theorem lb_old {π : Int → Int64} {b j b' j' : Int} {A : Nat} (hj : 0 ≤ j ∧ j ≤ 11) (hj' : 0 ≤ j' ∧ j' ≤ 11) (hA : A < 65536) (hne : ¬ (b' = b ∧ j' = j)) {f m : Nat} (hf : f + m ≤ 16) : lb (upL π (3 * b + j / 4) (pt (π (3 * b + j / 4)) (16 * (j % 4)) 65535 A)) b' j' f m = lb π b' j' f m := by
  unfold lb upL
  by_cases e : 3 * b' + j' / 4 = 3 * b + j / 4
  · rw [if_pos e]
    obtain ⟨q, hq⟩ : ∃ q : Nat, j % 4 = q := ⟨(j % 4).toNat, by omega⟩
    obtain ⟨q', hq'⟩ : ∃ q : Nat, j' % 4 = q := ⟨(j' % 4).toNat, by omega⟩
    have hqq : ¬ q = q' := by omega
    rw [hq, hq', e]
    have e2 := pt_ot (x := π (3 * b + j / 4)) (S := 16 * q) (n := 16) (A := A) (f := 16 * q' + f) (m := m) (by omega) (by omega) (by decide) hA (by omega) (by omega)
    rw [show (16 * (q' : Int) + (f : Int)).toNat = 16 * q' + f by omega, show ((m : Int)).toNat = m from rfl, show (16 * (q : Int)) = ((16 * q : Nat) : Int) by push_cast; rfl]
    exact e2
  · rw [if_neg e]
/-- a phrase has ended, and its sixteen bits are kept -/
theorem LW_f {σ s : TS} {π : Int → Int64} {τ u : TS} {n N Z O J S : Int} {cc tt : Int → Int} (L : LW σ π τ) (W : WF τ) (M : LM σ) (h1 : 0 ≤ σ 37 1) (he : σ 32 (σ 37 1) < 12)
    (E : EVS (aT τ) u (la τ) n cc tt) (hs : ∀ k, ¬ (k = 34 ∨ k = 35 ∨ k = 37) → s k = σ k) (hs2 : ∀ z, ¬ (z = 5 ∨ z = 6) → s 37 z = σ 37 z)
    (hN : N = jr u (la τ) (-1)) (hZ : Z = jr u (la τ) 0) (hO : O = jr u (la τ) 1) (hJ : J = jr u (la τ) (-2)) (hS : S = if J = N then 0 else if J = Z then 1 else 2) (h3 : J = N ∨ J = Z ∨ J = O) (rN : 0 ≤ N ∧ N ≤ 3) (rZ : 0 ≤ Z ∧ Z ≤ 3) (rO : 0 ≤ O ∧ O ≤ 3) :
    LW (ts (ts s 32 (σ 37 1) (σ 32 (σ 37 1) + 1)) 37 6 1) (upL π (3 * σ 37 1 + σ 32 (σ 37 1) / 4) (pt (π (3 * σ 37 1 + σ 32 (σ 37 1) / 4)) (16 * (σ 32 (σ 37 1) % 4)) 65535 (σ 37 2 + 16 * σ 37 3 + 256 * N + 1024 * Z + 4096 * O + 16384 * S))) (fT u) := by
  obtain ⟨m0, m1, m2, m3, m4, m6, m7, m9⟩ := M
  obtain ⟨⟨⟨a1, a2, a3, a4, a5⟩, a6, a7, a8⟩, p, x, ⟨g1, g2⟩, q, nn, B⟩ := id L
  obtain ⟨⟨k1, k2, k3, k4⟩, k5, k6, k7⟩ := g2 h1
  obtain ⟨b, hb⟩ : ∃ b, b = σ 37 1 := ⟨_, rfl⟩
  obtain ⟨e, hee⟩ : ∃ e, e = σ 32 b := ⟨_, rfl⟩
  rw [← hb] at k1 k7 m1 h1 he ⊢
  rw [← hee] at he ⊢
  have hsl := slo_num (b := b) (by omega)
  have q0 := q b h1 (by omega)
  have w10 := wf10 W (slb b)
  have hla : la τ = 12 * slb b + e := by
    unfold la
    rw [k1, hsl, q0.1, hee]
  have hEQ := EQP_f E
  have hla2 := la_EVS E
  obtain ⟨e1, e2, e3, e4, e5⟩ := E
  have u17 : u 17 0 = num b := by rw [e1 17 (by decide), aT_k (by decide)]; exact k1
  have u10 : u 10 = τ 10 := by rw [e1 10 (by decide), aT_k (by decide)]
  have f10 : fT u 10 = upZ (τ 10) (slb b) (e + 1) := by
    unfold fT
    rw [ts_n (by decide), ts_n (by decide), ts_s, u17, hsl, u10, q0.1, ← hee]
  have fk : ∀ k, ¬ (k = 10 ∨ k = 12 ∨ k = 13 ∨ k = 14 ∨ k = 15 ∨ k = 16 ∨ k = 19 ∨ k = 20) → fT u k = τ k := fun k h => by
    unfold fT
    rw [ts_n (by omega), ts_n (by omega), ts_n (by omega), e1 k (by omega), aT_k (by omega)]
  have f13 : fT u 13 = upZ (upZ (τ 13) (2 * la τ) (τ 18 0)) (2 * la τ + 1) (τ 18 1) := by
    unfold fT
    rw [ts_n (by decide), ts_n (by decide), ts_n (by decide), e1 13 (by decide)]
    rfl
  have f14 : fT u 14 (la τ) = -2 := by
    unfold fT
    rw [ts_n (by decide), ts_n (by decide), ts_n (by decide), e1 14 (by decide)]
    exact if_pos rfl
  have fj : jr (fT u) = jr u := rfl
  obtain ⟨t, ht⟩ : ∃ t, t = ts (ts s 32 b (e + 1)) 37 6 1 := ⟨_, rfl⟩
  rw [← ht]
  have t37 : ∀ z, ¬ (z = 5 ∨ z = 6) → t 37 z = σ 37 z := fun z hz => by
    rw [ht, ts_else (by omega), ts_n (by decide)]
    exact hs2 z hz
  have t6 : t 37 6 = 1 := by rw [ht]; exact ts_self
  have tk : ∀ k, ¬ (k = 32 ∨ k = 34 ∨ k = 35 ∨ k = 37) → t k = σ k := fun k hk => by
    rw [ht, ts_n (by omega), ts_n (by omega)]
    exact hs k (by omega)
  have t32 : t 32 = upZ (σ 32) b (e + 1) := by
    rw [ht, ts_n (by decide), ts_s, hs 32 (by decide)]
  have hS2 : S = 0 ∧ J = N ∨ S = 1 ∧ J = Z ∨ S = 2 ∧ J = O := by
    rw [hS]
    split
    · omega
    · split <;> omega
  obtain ⟨A, hA⟩ : ∃ A : Nat, σ 37 2 + 16 * σ 37 3 + 256 * N + 1024 * Z + 4096 * O + 16384 * S = A := ⟨(σ 37 2 + 16 * σ 37 3 + 256 * N + 1024 * Z + 4096 * O + 16384 * S).toNat, by omega⟩
  have hA2 : A < 65536 := by omega
  rw [hA]
  have e0 : 0 ≤ e := by omega
  refine ⟨⟨⟨?_, ?_, ?_, ?_, ?_⟩, ?_, ?_, ?_⟩, ?_, ?_, ⟨?_, ?_⟩, ?_, ⟨?_, ?_⟩, ?_⟩
  · rw [fk 0 (by decide), t37 9 (by decide)]; exact a1
  · rw [fk 1 (by decide)]; exact a2
  · rw [fk 5 (by decide), t37 0 (by decide)]; exact a3
  · rw [fk 8 (by decide)]; exact a4
  · rw [fk 9 (by decide)]; exact a5
  · rfl
  · rw [fk 21 (by decide), t37 7 (by decide)]; exact a7
  · rw [fk 24 (by decide), t37 8 (by decide)]; exact a8
  · unfold LPo
    rw [fk 6 (by decide), fk 7 (by decide)]
    exact p
  · unfold LX
    rw [fk 2 (by decide), fk 3 (by decide), fk 4 (by decide), tk 30 (by decide), t37 0 (by decide)]
    exact x
  · intro h
    rw [t37 1 (by decide)] at h
    omega
  · intro _
    rw [t37 1 (by decide), t37 2 (by decide), t37 3 (by decide), t37 0 (by decide), t37 7 (by decide), t6, fk 17 (by decide), fk 18 (by decide), ← hb]
    exact ⟨⟨k1, k2, k3, rfl⟩, k5, k6, k7⟩
  · intro i i0 i1
    obtain ⟨z1, z2, z3⟩ := q i i0 i1
    rw [f10, fk 11 (by decide), t32, tk 33 (by decide)]
    refine ⟨?_, z2, z3⟩
    unfold upZ
    by_cases c : i = b
    · rw [if_pos c, if_pos (by rw [c])]
    · rw [if_neg c, if_neg (fun z => c (slb_inj ⟨i0, i1⟩ (by omega) z))]
      exact z1
  · intro h
    rw [t37 7 (by decide)] at h
    rw [fk 22 (by decide), tk 36 (by decide)]
    exact nn.1 h
  · intro h
    rw [t37 7 (by decide)] at h
    rw [tk 36 (by decide), t32]
    obtain ⟨z1, z2⟩ := nn.2 h
    refine ⟨z1, fun i i0 i1 => ?_⟩
    unfold upZ
    rw [if_neg (fun z => by have := k7 (by omega); omega)]
    exact z2 i i0 i1
  · intro i j i0 i1 j0 j1
    rw [t32] at j1
    unfold upZ at j1
    by_cases c : i = b ∧ j = e
    · obtain ⟨c1, c2⟩ := c
      subst c1
      subst c2
      have ew : ∀ {f m : Nat}, f + m ≤ 16 → lb (upL π (3 * i + j / 4) (pt (π (3 * i + j / 4)) (16 * (j % 4)) 65535 A)) i j f m = ((A / 2 ^ f % 2 ^ m : Nat) : Int) := fun hf => lb_new e0 hA2 hf
      have l0 := ew (f := 0) (m := 4) (by decide)
      have l4 := ew (f := 4) (m := 4) (by decide)
      have l8 := ew (f := 8) (m := 2) (by decide)
      have l10 := ew (f := 10) (m := 2) (by decide)
      have l12 := ew (f := 12) (m := 2) (by decide)
      have l14 := ew (f := 14) (m := 2) (by decide)
      rw [show ((A / 2 ^ 0 % 2 ^ 4 : Nat) : Int) = ((A / 1 % 16 : Nat) : Int) from rfl] at l0
      rw [show ((A / 2 ^ 4 % 2 ^ 4 : Nat) : Int) = ((A / 16 % 16 : Nat) : Int) from rfl] at l4
      rw [show ((A / 2 ^ 8 % 2 ^ 2 : Nat) : Int) = ((A / 256 % 4 : Nat) : Int) from rfl] at l8
      rw [show ((A / 2 ^ 10 % 2 ^ 2 : Nat) : Int) = ((A / 1024 % 4 : Nat) : Int) from rfl] at l10
      rw [show ((A / 2 ^ 12 % 2 ^ 2 : Nat) : Int) = ((A / 4096 % 4 : Nat) : Int) from rfl] at l12
      rw [show ((A / 2 ^ 14 % 2 ^ 2 : Nat) : Int) = ((A / 16384 % 4 : Nat) : Int) from rfl] at l14
      have v0 : ((A / 1 % 16 : Nat) : Int) = σ 37 2 := by omega
      have v4 : ((A / 16 % 16 : Nat) : Int) = σ 37 3 := by omega
      have v8 : ((A / 256 % 4 : Nat) : Int) = N := by omega
      have v10 : ((A / 1024 % 4 : Nat) : Int) = Z := by omega
      have v12 : ((A / 4096 % 4 : Nat) : Int) = O := by omega
      have v14 : ((A / 16384 % 4 : Nat) : Int) = S := by omega
      rw [v0] at l0
      rw [v4] at l4
      rw [v8] at l8
      rw [v10] at l10
      rw [v12] at l12
      rw [v14] at l14
      have j13a : fT u 13 (2 * (12 * slb i + j)) = σ 37 2 := by
        rw [f13, hla, k2]
        unfold upZ
        rw [if_neg (by omega), if_pos rfl]
      have j13b : fT u 13 (2 * (12 * slb i + j) + 1) = σ 37 3 := by
        rw [f13, hla, k3]
        unfold upZ
        rw [if_pos rfl]
      have jJ : jd (fT u) (12 * slb i + j) = J := by
        rw [← hla, jd_jr f14, fj, hJ]
      unfold PB
      rw [j13a, j13b, jJ, fj, ← hla, t37 0 (by decide)]
      refine ⟨⟨l0, l4⟩, ⟨k5, k6⟩, ⟨by rw [← hN]; exact l8, by rw [← hZ]; exact l10, by rw [← hO]; exact l12⟩, ?_⟩
      unfold lt0
      have l14' : lb (upL π (3 * i + j / 4) (pt (π (3 * i + j / 4)) (16 * (j % 4)) 65535 A)) i j 14 2 = S := l14
      rw [l14']
      rcases hS2 with ⟨z1, z2⟩ | ⟨z1, z2⟩ | ⟨z1, z2⟩
      · rw [z1, z2]; exact l8
      · rw [z1, z2]; exact l10
      · rw [z1, z2]; exact l12
    · have hj : j < σ 32 i := by
        split at j1
        · rename_i z
          rw [z, ← hee]
          have : ¬ j = e := fun y => c ⟨z, y⟩
          omega
        · exact j1
      have hph : ¬ 12 * slb i + j = la τ := by
        rw [hla]
        intro z
        have b12 : j < 12 := by have := wf10 W (slb i); have := (q i i0 i1).1; omega
        have : slb i = slb b := by omega
        exact c ⟨slb_inj ⟨i0, i1⟩ (by omega) this, by omega⟩
      have w12 : j < 12 := by have := wf10 W (slb i); have := (q i i0 i1).1; omega
      have hph0 : 0 ≤ 12 * slb i + j := by have := slb_rg ⟨i0, i1⟩; omega
      have P := B i j i0 i1 j0 hj
      have eo : ∀ {f m : Nat}, f + m ≤ 16 → lb (upL π (3 * b + e / 4) (pt (π (3 * b + e / 4)) (16 * (e % 4)) 65535 A)) i j f m = lb π i j f m := fun hf => lb_old ⟨e0, by omega⟩ ⟨j0, by omega⟩ hA2 c hf
      have o0 := eo (f := 0) (m := 4) (by decide)
      have o4 := eo (f := 4) (m := 4) (by decide)
      have o8 := eo (f := 8) (m := 2) (by decide)
      have o10 := eo (f := 10) (m := 2) (by decide)
      have o12 := eo (f := 12) (m := 2) (by decide)
      have o14 := eo (f := 14) (m := 2) (by decide)
      have c13 : ∀ y, y = 2 * (12 * slb i + j) ∨ y = 2 * (12 * slb i + j) + 1 → fT u 13 y = τ 13 y := fun y hy => hEQ.2.2.2.2.1 y (by omega)
      unfold PB lt0 at P ⊢
      rw [c13 _ (Or.inl rfl), c13 _ (Or.inr rfl), jr_E hEQ W (by decide) hph0 hph, jr_E hEQ W (by decide) hph0 hph, jr_E hEQ W (by decide) hph0 hph, jd_E hEQ W hph0 hph, t37 0 (by decide)]
      obtain ⟨⟨P1, P2⟩, P3, ⟨P4, P5, P6⟩, P7⟩ := P
      refine ⟨⟨o0.trans P1, o4.trans P2⟩, P3, ⟨o8.trans P4, o10.trans P5, o12.trans P6⟩, ?_⟩
      have h14 : lb (upL π (3 * b + e / 4) (pt (π (3 * b + e / 4)) (16 * (e % 4)) 65535 A)) i j 14 2 = lb π i j 14 2 := o14
      rw [h14]
      have l2 := lb2 (π := π) (b := i) (j := j) (f := 14)
      obtain ⟨y, hy⟩ : ∃ y : Nat, lb π i j 14 2 = y := ⟨(lb π i j 14 2).toNat, by omega⟩
      rw [hy] at P7 l2 ⊢
      have o := eo (f := 8 + 2 * y) (m := 2) (by omega)
      have ec : (8 : Int) + 2 * (y : Int) = ((8 + 2 * y : Nat) : Int) := by push_cast; rfl
      rw [ec] at P7 ⊢
      exact o.trans P7
