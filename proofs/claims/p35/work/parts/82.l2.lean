/-! THE LAW: how it judges a phrase -/
def mor (a b : Int) : Int := ((a.toNat ||| b.toNat : Nat) : Int)
theorem mor_0 {a : Int} (h : 0 ≤ a) : mor a 0 = a := by
  unfold mor
  rw [show (0 : Int).toNat = 0 from rfl, Nat.or_zero]
  omega
theorem mor_c {a b : Int} (ha : 0 ≤ a ∧ a ≤ 3) (hb : b = 1 ∨ b = 2) : mor a b = if (if b = 1 then a else a / 2) % 2 = 0 then a + b else a := by
  have : a = 0 ∨ a = 1 ∨ a = 2 ∨ a = 3 := by omega
  rcases this with rfl | rfl | rfl | rfl <;> rcases hb with rfl | rfl <;> decide
theorem mor_rg {a b : Int} (ha : 0 ≤ a ∧ a ≤ 3) (hb : 0 ≤ b ∧ b ≤ 2) : 0 ≤ mor a b ∧ mor a b ≤ 3 := by
  have h1 : b = 0 ∨ b = 1 ∨ b = 2 := by omega
  rcases h1 with rfl | h1
  · rw [mor_0 ha.1]; exact ha
  · rw [mor_c ha h1]; split <;> omega
theorem iI_or {a b : Int} (ha : 0 ≤ a ∧ a ≤ 3) (hb : 0 ≤ b ∧ b ≤ 3) : iI a ||| iI b = iI (mor a b) := by
  have h1 : a = 0 ∨ a = 1 ∨ a = 2 ∨ a = 3 := by omega
  have h2 : b = 0 ∨ b = 1 ∨ b = 2 ∨ b = 3 := by omega
  rcases h1 with rfl | rfl | rfl | rfl <;> rcases h2 with rfl | rfl | rfl | rfl <;> simp only [iI_d] <;> decide +kernel
def shq (l s : Int) : Int := if s = 0 then l else l / 2
theorem iI_shq {l s : Int} (hl : 0 ≤ l ∧ l ≤ 3) (hs : s = 0 ∨ s = 1) : iI l >>> (iI s &&& 31) = iI (shq l s) := by
  have h1 : l = 0 ∨ l = 1 ∨ l = 2 ∨ l = 3 := by omega
  rcases h1 with rfl | rfl | rfl | rfl <;> rcases hs with rfl | rfl <;> simp only [iI_d] <;> decide +kernel
theorem shq_rg {l s : Int} (hl : 0 ≤ l ∧ l ≤ 3) : 0 ≤ shq l s ∧ shq l s ≤ 3 := by
  unfold shq
  split <;> omega
/-- one event more: 0 who had the right at the first light, 1 its time, 2 who has it, 3 lights, 4 those on the target -/
def jen (F ci : Int) (s : Nat → Int) : Prop := ¬ 3 < ci ∧ (¬ F = 0 ∨ ci % 2 = 1) ∧ mand (shq (s 3) (ci / 2)) 1 = 0
abbrev jfs (ti : Int) (s : Nat → Int) : Int := if s 3 = 0 then ti else s 1
abbrev jlt (F ti : Int) (s : Nat → Int) : Prop := ti - jfs ti s ≤ (if F = 0 then 40 else 300)
noncomputable def jstep (F ci ti : Int) (s : Nat → Int) : Nat → Int := fun k => @ite _ (jen F ci s) (Classical.propDecidable _)
  (match k with
    | 0 => if s 3 = 0 then s 2 else s 0
    | 1 => jfs ti s
    | 2 => s 2
    | 3 => mor (s 3) (if jlt F ti s then ci / 2 + 1 else 0)
    | _ => mor (s 4) (if jlt F ti s ∧ ci % 2 = 1 then ci / 2 + 1 else 0))
  (match k with
    | 2 => if 3 < ci then ci - 5 else s 2
    | k => s k)
noncomputable def jst (F : Int) (c t : Int → Int) : Nat → Nat → Int
  | 0 => fun k => if k < 3 then -1 else 0
  | i + 1 => jstep F (c i) (t i) (jst F c t i)
theorem jst_y {F ci ti : Int} {s : Nat → Int} (h : jen F ci s) : jstep F ci ti s = fun k => match k with
    | 0 => if s 3 = 0 then s 2 else s 0
    | 1 => jfs ti s
    | 2 => s 2
    | 3 => mor (s 3) (if jlt F ti s then ci / 2 + 1 else 0)
    | _ => mor (s 4) (if jlt F ti s ∧ ci % 2 = 1 then ci / 2 + 1 else 0) := by
  funext k
  unfold jstep
  rw [if_pos h]
theorem jst_n {F ci ti : Int} {s : Nat → Int} (h : ¬ jen F ci s) : jstep F ci ti s = fun k => match k with
    | 2 => if 3 < ci then ci - 5 else s 2
    | k => s k := by
  funext k
  unfold jstep
  rw [if_neg h]
def jok (s : Nat → Int) : Prop := (-1 ≤ s 0 ∧ s 0 ≤ 1) ∧ (-1 ≤ s 1 ∧ s 1 ≤ 1000000) ∧ (-1 ≤ s 2 ∧ s 2 ≤ 1) ∧ (0 ≤ s 3 ∧ s 3 ≤ 3) ∧ (0 ≤ s 4 ∧ s 4 ≤ 3)
theorem jst_rg {F : Int} {c t : Int → Int} (Bc : ∀ z, 0 ≤ c z ∧ c z ≤ 6) (Bt : ∀ z, 0 ≤ t z ∧ t z ≤ 1000000) : ∀ i : Nat, jok (jst F c t i)
  | 0 => by show ((-1 : Int) ≤ -1 ∧ (-1 : Int) ≤ 1) ∧ ((-1 : Int) ≤ -1 ∧ (-1 : Int) ≤ 1000000) ∧ ((-1 : Int) ≤ -1 ∧ (-1 : Int) ≤ 1) ∧ ((0 : Int) ≤ 0 ∧ (0 : Int) ≤ 3) ∧ ((0 : Int) ≤ 0 ∧ (0 : Int) ≤ 3); omega
  | i + 1 => by
    obtain ⟨h0, h1, h2, h3, h4⟩ := jst_rg Bc Bt i (F := F)
    have b1 := Bc i
    have b2 := Bt i
    show jok (jstep F (c i) (t i) (jst F c t i))
    generalize jst F c t i = s at *
    by_cases hy : jen F (c i) s
    · rw [jst_y hy]
      have q1 : ¬ 3 < c i := hy.1
      refine ⟨?_, ?_, h2, ?_, ?_⟩
      · show -1 ≤ (if s 3 = 0 then s 2 else s 0) ∧ (if s 3 = 0 then s 2 else s 0) ≤ 1
        split <;> omega
      · show -1 ≤ jfs (t i) s ∧ jfs (t i) s ≤ 1000000
        unfold jfs
        split <;> omega
      · exact mor_rg h3 (by split <;> omega)
      · exact mor_rg h4 (by split <;> omega)
    · rw [jst_n hy]
      refine ⟨h0, h1, ?_, h3, h4⟩
      show -1 ≤ (if 3 < c i then c i - 5 else s 2) ∧ (if 3 < c i then c i - 5 else s 2) ≤ 1
      split <;> omega
def jfin (F r : Int) (s : Nat → Int) : Int := if F = 0 ∨ ¬ s 3 = 3 then s 4 else if (if r = -2 then s 0 else r) < 0 then 0 else mand (s 4) ((if r = -2 then s 0 else r) + 1)
/-- the same, the reference's way -/
def J8 (F n : Int) (c t : Int → Int) (r : Int) : Int :=
  let fr := jl F c 0 n.toNat
  if fr.1 = -1 then 0 else
    let sd := c fr.1 / 2
    let s := js F c sd fr.1 (n - fr.1 - 1).toNat
    let rr := if r = -2 then fr.2 else r
    if s = -1 ∨ (if F = 0 then 40 else 300) < t s - t fr.1 then (if c fr.1 % 2 = 1 then sd + 1 else 0)
    else if F = 0 then 3 else if ¬ rr = -1 ∧ c (if rr = sd then fr.1 else s) % 2 = 1 then rr + 1 else 0
abbrev lkF (F : Int) : Int := if F = 0 then 40 else 300
/-- the law's state, told by where the lights are -/
def jrel (F : Int) (c t : Int → Int) (i : Nat) (s : Nat → Int) : Prop :=
  ((jl F c 0 i).1 = -1 → s 3 = 0 ∧ s 4 = 0 ∧ s 2 = (jl F c 0 i).2) ∧
  (∀ f : Nat, (jl F c 0 i).1 = f → f < i ∧ s 1 = t f ∧ s 0 = (jl F c 0 i).2 ∧ (0 ≤ c f ∧ c f ≤ 3) ∧ litF F c f ∧
    ((js F c (c f / 2) f (i - f - 1) = -1 → s 3 = c f / 2 + 1 ∧ s 4 = c f % 2 * (c f / 2 + 1)) ∧
     (∀ g : Nat, js F c (c f / 2) f (i - f - 1) = g → f < g ∧ g < i ∧ cntF F c g (1 - c f / 2) ∧
       (lkF F < t g - t f → s 3 = c f / 2 + 1 ∧ s 4 = c f % 2 * (c f / 2 + 1)) ∧
       (t g - t f ≤ lkF F → s 3 = 3 ∧ s 4 = c f % 2 * (c f / 2 + 1) + c g % 2 * (2 - c f / 2)))))
theorem js_sx {F : Int} {c : Int → Int} {s f : Int} {i : Nat} : js F c s f (i + 1) = if js F c s f i = -1 then (if cntF F c (f + 1 + i) (1 - s) then f + 1 + i else -1) else js F c s f i := rfl
theorem lkF_0 {F : Int} : 0 ≤ lkF F := by unfold lkF; split <;> omega
theorem shq_b {l q : Int} (hl : 0 ≤ l ∧ l ≤ 3) : mand (shq l q) 1 = shq l q % 2 := mand_1 (shq_rg hl)
theorem jrel_s {F : Int} {c t : Int → Int} (hF : 0 ≤ F ∧ F ≤ 1) (Bc : ∀ z, 0 ≤ c z ∧ c z ≤ 6) (N : Nat) (St : ∀ i j : Nat, i ≤ j → j < N → t i ≤ t j) (i : Nat) (hi : i < N) (s : Nat → Int) (h : jrel F c t i s) : jrel F c t (i + 1) (jstep F (c i) (t i) s) := by
  have b := Bc i
  obtain ⟨h1, h2⟩ := h
  by_cases e : (jl F c 0 i).1 = -1
  · obtain ⟨a1, a2, a3⟩ := h1 e
    have e2 := jl_su e
    rw [Int.zero_add] at e2
    have hm : mand (shq (s 3) (c i / 2)) 1 = 0 := by
      rw [shq_b (by omega), a1]
      unfold shq
      split <;> rfl
    by_cases hl : litF F c i
    · have hc : ¬ 3 < c i := by have := lit_c (Bc i) hl; omega
      have hy : jen F (c i) s := by
        refine ⟨hc, ?_, hm⟩
        rcases hl with hl | hl
        · exact hl.2
        · exact hl.2
      rw [jst_y hy]
      rw [if_pos hl] at e2
      refine ⟨fun q => ?_, fun f q => ?_⟩
      · rw [e2] at q
        simp only [] at q
        omega
      · rw [e2] at q ⊢
        simp only [] at q ⊢
        have hf : f = i := by omega
        subst hf
        have hlt : jlt F (t f) s := by
          unfold jlt jfs
          rw [if_pos a1]
          have := lkF_0 (F := F)
          unfold lkF at this
          omega
        have e5 : f + 1 - f - 1 = 0 := by omega
        rw [e5]
        refine ⟨by omega, ?_, ?_, by omega, hl, fun _ => ⟨?_, ?_⟩, fun g q2 => ?_⟩
        · show jfs (t f) s = t f
          unfold jfs
          rw [if_pos a1]
        · show (if s 3 = 0 then s 2 else s 0) = _
          rw [if_pos a1, a3, if_neg (by omega)]
        · show mor (s 3) (if jlt F (t f) s then c f / 2 + 1 else 0) = _
          rw [if_pos hlt, a1]
          have : c f / 2 + 1 = 1 ∨ c f / 2 + 1 = 2 := by omega
          rcases this with q3 | q3 <;> rw [q3] <;> decide
        · show mor (s 4) (if jlt F (t f) s ∧ c f % 2 = 1 then c f / 2 + 1 else 0) = _
          rw [a2]
          have q4 : c f = 0 ∨ c f = 1 ∨ c f = 2 ∨ c f = 3 := by omega
          rcases q4 with q4 | q4 | q4 | q4 <;> rw [q4]
          · rw [if_neg (fun z => absurd z.2 (by decide))]; decide
          · rw [if_pos ⟨hlt, by decide⟩]; decide
          · rw [if_neg (fun z => absurd z.2 (by decide))]; decide
          · rw [if_pos ⟨hlt, by decide⟩]; decide
        · have q3 : (-1 : Int) = (g : Int) := q2
          omega
    · rw [if_neg hl] at e2
      have hn : ¬ jen F (c i) s := by
        intro z
        apply hl
        have q1 := z.1
        by_cases q2 : c i / 2 = 0
        · exact Or.inl ⟨q2, z.2.1⟩
        · exact Or.inr ⟨by omega, z.2.1⟩
      rw [jst_n hn]
      refine ⟨fun _ => ⟨a1, a2, ?_⟩, fun f q => ?_⟩
      · show (if 3 < c i then c i - 5 else s 2) = _
        rw [e2]
        simp only []
        split
        · rw [if_pos (by omega)]
        · rw [if_neg (by omega)]; exact a3
      · rw [e2] at q
        simp only [] at q
        omega
  · have e2 := jl_stay e 1
    obtain ⟨l, l1, l2, -⟩ := jl_at (Int.le_refl 0) i e
    have hf0 : (jl F c 0 i).1 = l := by omega
    obtain ⟨g1, g2, g3, g4, g5, g6, g7⟩ := h2 l hf0
    refine ⟨fun q => ?_, fun f q => ?_⟩
    · rw [e2] at q
      exact absurd q e
    · rw [e2] at q ⊢
      have hfl : f = l := by omega
      subst hfl
      have ei : i + 1 - f - 1 = (i - f - 1) + 1 := by omega
      have ei2 : (f : Int) + 1 + ((i - f - 1 : Nat) : Int) = i := by omega
      rw [ei, js_sx, ei2]
      have sd : c f / 2 = 0 ∨ c f / 2 = 1 := by omega
      -- what the step does, by whether it enters
      by_cases hcn : cntF F c i (1 - c f / 2)
      · have hc3 : ¬ 3 < c i := by have := hcn.1; omega
        by_cases ej : js F c (c f / 2) f (i - f - 1) = -1
        · obtain ⟨k3, k4⟩ := g6 ej
          rw [if_pos ej, if_pos hcn]
          have hy : jen F (c i) s := by
            refine ⟨hc3, hcn.2, ?_⟩
            rw [shq_b (by omega), k3, hcn.1]
            unfold shq
            rcases sd with z | z <;> rw [z] <;> decide
          have hfs : jfs (t i) s = t f := by
            unfold jfs
            rw [if_neg (by omega)]
            exact g2
          rw [jst_y hy]
          refine ⟨by omega, hfs, ?_, g4, g5, fun z => absurd z (by omega), fun g z => ?_⟩
          · show (if s 3 = 0 then s 2 else s 0) = _
            rw [if_neg (by omega)]
            exact g3
          · have hg : g = i := by omega
            subst hg
            refine ⟨g1, by omega, hcn, fun hlt => ⟨?_, ?_⟩, fun hlt => ⟨?_, ?_⟩⟩
            · show mor (s 3) (if jlt F (t g) s then c g / 2 + 1 else 0) = _
              rw [if_neg (by unfold jlt; rw [hfs]; unfold lkF at hlt; omega), mor_0 (by omega)]
              exact k3
            · show mor (s 4) (if jlt F (t g) s ∧ c g % 2 = 1 then c g / 2 + 1 else 0) = _
              rw [if_neg (fun y => by have := y.1; unfold jlt at this; rw [hfs] at this; unfold lkF at hlt; omega), mor_0 (by rw [k4]; rcases sd with z | z <;> rw [z] <;> omega)]
              exact k4
            · show mor (s 3) (if jlt F (t g) s then c g / 2 + 1 else 0) = _
              rw [if_pos (by unfold jlt; rw [hfs]; unfold lkF at hlt; omega), k3, hcn.1]
              rcases sd with z | z <;> rw [z] <;> decide
            · show mor (s 4) (if jlt F (t g) s ∧ c g % 2 = 1 then c g / 2 + 1 else 0) = _
              rw [k4]
              have hj : jlt F (t g) s := by unfold jlt; rw [hfs]; unfold lkF at hlt; omega
              have h9 := hcn.1
              have m1 : c f % 2 = 0 ∨ c f % 2 = 1 := by omega
              have m2 : c g % 2 = 0 ∨ c g % 2 = 1 := by omega
              rcases m2 with m2 | m2
              · rw [if_neg (fun y => by have := y.2; omega), m2]
                rcases sd with z | z <;> rcases m1 with m1 | m1 <;> rw [z, m1] <;> decide
              · rw [if_pos ⟨hj, m2⟩, m2, h9]
                rcases sd with z | z <;> rcases m1 with m1 | m1 <;> rw [z, m1] <;> decide
        · rw [if_neg ej]
          obtain ⟨gg, hgg⟩ : ∃ gg : Nat, js F c (c f / 2) f (i - f - 1) = gg := by
            rcases js_in (F := F) (c := c) (s := c f / 2) (f := (f : Int)) (by omega) (i - f - 1) with z | z
            · exact absurd z ej
            · exact ⟨(js F c (c f / 2) f (i - f - 1)).toNat, by omega⟩
          obtain ⟨p1, p2, p3, p4, p5⟩ := g7 gg hgg
          have hn : t gg - t f ≤ lkF F → ¬ jen F (c i) s := by
            intro hle y
            have k3 := (p5 hle).1
            have h8 := y.2.2
            rw [shq_b (by omega), k3, hcn.1] at h8
            unfold shq at h8
            rcases sd with z | z <;> rw [z] at h8 <;> exact absurd h8 (by decide)
          by_cases hle : t gg - t f ≤ lkF F
          · rw [jst_n (hn hle)]
            refine ⟨by omega, g2, g3, g4, g5, fun z => absurd z ej, fun g z => ?_⟩
            have hg : g = gg := by omega
            subst hg
            exact ⟨p1, by omega, p3, p4, p5⟩
          · have hgt : lkF F < t gg - t f := by omega
            obtain ⟨k3, k4⟩ := p4 hgt
            have hst := St gg i (by omega) hi
            by_cases hy : jen F (c i) s
            · have hfs : jfs (t i) s = t f := by
                unfold jfs
                rw [if_neg (by omega)]
                exact g2
              have hnl : ¬ jlt F (t i) s := by
                unfold jlt
                rw [hfs]
                unfold lkF at hgt
                omega
              rw [jst_y hy]
              refine ⟨by omega, hfs, ?_, g4, g5, fun z => absurd z ej, fun g z => ?_⟩
              · show (if s 3 = 0 then s 2 else s 0) = _
                rw [if_neg (by omega)]
                exact g3
              · have hg : g = gg := by omega
                subst hg
                refine ⟨p1, by omega, p3, fun _ => ⟨?_, ?_⟩, fun y => by omega⟩
                · show mor (s 3) (if jlt F (t i) s then c i / 2 + 1 else 0) = _
                  rw [if_neg hnl, mor_0 (by omega)]
                  exact k3
                · show mor (s 4) (if jlt F (t i) s ∧ c i % 2 = 1 then c i / 2 + 1 else 0) = _
                  rw [if_neg (fun y => hnl y.1), mor_0 (by rw [k4]; rcases sd with z | z <;> rw [z] <;> omega)]
                  exact k4
            · rw [jst_n hy]
              refine ⟨by omega, g2, g3, g4, g5, fun z => absurd z ej, fun g z => ?_⟩
              have hg : g = gg := by omega
              subst hg
              exact ⟨p1, by omega, p3, p4, p5⟩
      · -- nothing that counts for the other side
        have hn : ¬ jen F (c i) s := by
          intro y
          have y1 := y.1
          have h8 := y.2.2
          have hq : c i / 2 = c f / 2 := by
            by_cases z : c i / 2 = c f / 2
            · exact z
            · exact absurd ⟨by omega, y.2.1⟩ hcn
          have k3 : s 3 = c f / 2 + 1 ∨ s 3 = 3 := by
            by_cases ej : js F c (c f / 2) f (i - f - 1) = -1
            · exact Or.inl (g6 ej).1
            · obtain ⟨gg, hgg⟩ : ∃ gg : Nat, js F c (c f / 2) f (i - f - 1) = gg := by
                rcases js_in (F := F) (c := c) (s := c f / 2) (f := (f : Int)) (by omega) (i - f - 1) with z | z
                · exact absurd z ej
                · exact ⟨(js F c (c f / 2) f (i - f - 1)).toNat, by omega⟩
              obtain ⟨-, -, -, p4, p5⟩ := g7 gg hgg
              by_cases hle : t gg - t f ≤ lkF F
              · exact Or.inr (p5 hle).1
              · exact Or.inl (p4 (by omega)).1
          rw [shq_b (by omega), hq] at h8
          unfold shq at h8
          rcases sd with z | z <;> rw [z] at h8 k3 <;> rcases k3 with k3 | k3 <;> rw [k3] at h8 <;> exact absurd h8 (by decide)
        rw [jst_n hn]
        by_cases ej : js F c (c f / 2) f (i - f - 1) = -1
        · rw [if_pos ej, if_neg hcn]
          exact ⟨by omega, g2, g3, g4, g5, fun _ => g6 ej, fun g z => absurd z (by omega)⟩
        · rw [if_neg ej]
          refine ⟨by omega, g2, g3, g4, g5, fun z => absurd z ej, fun g z => ?_⟩
          obtain ⟨p1, p2, p3, p4, p5⟩ := g7 g z
          exact ⟨p1, by omega, p3, p4, p5⟩
theorem jrel_i {F : Int} {c t : Int → Int} (hF : 0 ≤ F ∧ F ≤ 1) (Bc : ∀ z, 0 ≤ c z ∧ c z ≤ 6) (N : Nat) (St : ∀ i j : Nat, i ≤ j → j < N → t i ≤ t j) : ∀ i : Nat, i ≤ N → jrel F c t i (jst F c t i)
  | 0, _ => ⟨fun _ => ⟨rfl, rfl, rfl⟩, fun f q => absurd (show (-1 : Int) = f from q) (by omega)⟩
  | i + 1, h => jrel_s hF Bc N St i (by omega) _ (jrel_i hF Bc N St i (by omega))
theorem jfin_J8 {F n r : Int} {c t : Int → Int} (hF : 0 ≤ F ∧ F ≤ 1) (hn : 0 ≤ n) (hr : -2 ≤ r ∧ r ≤ 1) (Bc : ∀ z, 0 ≤ c z ∧ c z ≤ 6) (St : ∀ i j : Nat, i ≤ j → (j : Int) < n → t i ≤ t j) : jfin F r (jst F c t n.toNat) = J8 F n c t r := by
  have h := jrel_i hF Bc n.toNat (fun i j a b => St i j a (by omega)) n.toNat (Nat.le_refl _)
  obtain ⟨h1, h2⟩ := h
  have hin := jl_in (F := F) (c := c) (f := 0) (Int.le_refl 0) Bc n.toNat
  generalize jst F c t n.toNat = s at h1 h2 ⊢
  unfold jfin J8
  simp only []
  by_cases e : (jl F c 0 n.toNat).1 = -1
  · obtain ⟨a1, a2, a3⟩ := h1 e
    rw [if_pos e, if_pos (Or.inr (by omega))]
    exact a2
  · obtain ⟨f, hf⟩ : ∃ f : Nat, (jl F c 0 n.toNat).1 = f := ⟨(jl F c 0 n.toNat).1.toNat, by omega⟩
    obtain ⟨g1, g2, g3, g4, g5, g6, g7⟩ := h2 f hf
    rw [if_neg e, hf, ← g3]
    have en : (n - (f : Int) - 1).toNat = n.toNat - f - 1 := by omega
    rw [en]
    have hcF : F = 0 → c f % 2 = 1 := by
      intro hF0
      rcases g5 with z | z
      · rcases z.2 with y | y
        · exact absurd hF0 y
        · exact y
      · rcases z.2 with y | y
        · exact absurd hF0 y
        · exact y
    have m1 : c f % 2 = 0 ∨ c f % 2 = 1 := by omega
    have sd : c f / 2 = 0 ∨ c f / 2 = 1 := by omega
    by_cases ej : js F c (c f / 2) f (n.toNat - f - 1) = -1
    · obtain ⟨k3, k4⟩ := g6 ej
      rw [if_pos (Or.inl ej), if_pos (Or.inr (by omega)), k4]
      rcases m1 with m1 | m1 <;> rw [m1]
      · rw [if_neg (by decide)]; omega
      · rw [if_pos rfl]; omega
    · obtain ⟨g, hg⟩ : ∃ g : Nat, js F c (c f / 2) f (n.toNat - f - 1) = g := by
        rcases js_in (F := F) (c := c) (s := c f / 2) (f := (f : Int)) (by omega) (n.toNat - f - 1) with z | z
        · exact absurd z ej
        · exact ⟨(js F c (c f / 2) f (n.toNat - f - 1)).toNat, by omega⟩
      obtain ⟨p1, p2, p3, p4, p5⟩ := g7 g hg
      rw [hg]
      by_cases hle : t g - t f ≤ lkF F
      · obtain ⟨k3, k4⟩ := p5 hle
        unfold lkF at hle
        have hng : ¬ ((g : Int) = -1 ∨ (if F = 0 then 40 else 300) < t g - t f) := fun z => by
          rcases z with z | z
          · omega
          · exact absurd z (Int.not_lt.mpr hle)
        rw [if_neg hng]
        have m2 : c g % 2 = 0 ∨ c g % 2 = 1 := by omega
        by_cases hF0 : F = 0
        · have q1 := hcF hF0
          have q2 : c g % 2 = 1 := by
            rcases p3.2 with y | y
            · exact absurd hF0 y
            · exact y
          rw [if_pos (Or.inl hF0), if_pos hF0, k4, q1, q2]
          rcases sd with z | z <;> rw [z] <;> decide
        · rw [if_neg (fun z => by rcases z with z | z; exact hF0 z; exact z k3), if_neg hF0]
          have hs0 : -1 ≤ s 0 ∧ s 0 ≤ 1 := by rw [g3]; omega
          have hrr : -1 ≤ (if r = -2 then s 0 else r) ∧ (if r = -2 then s 0 else r) ≤ 1 := by split <;> omega
          generalize (if r = -2 then s 0 else r) = rr at hrr ⊢
          by_cases h0 : rr < 0
          · rw [if_pos h0, if_neg (fun z => z.1 (by omega))]
          · rw [if_neg h0, k4]
            have hrr2 : rr = 0 ∨ rr = 1 := by omega
            rcases hrr2 with rfl | rfl <;> rcases sd with z | z <;> rw [z]
            · rw [if_pos rfl]
              rcases m1 with m1 | m1 <;> rcases m2 with m2 | m2 <;> rw [m1, m2] <;> decide
            · rw [if_neg (show ¬ (0 : Int) = 1 by decide)]
              rcases m1 with m1 | m1 <;> rcases m2 with m2 | m2 <;> rw [m1, m2] <;> decide
            · rw [if_neg (show ¬ (1 : Int) = 0 by decide)]
              rcases m1 with m1 | m1 <;> rcases m2 with m2 | m2 <;> rw [m1, m2] <;> decide
            · rw [if_pos rfl]
              rcases m1 with m1 | m1 <;> rcases m2 with m2 | m2 <;> rw [m1, m2] <;> decide
      · have hgt : lkF F < t g - t f := by omega
        obtain ⟨k3, k4⟩ := p4 hgt
        unfold lkF at hgt
        have hps : (g : Int) = -1 ∨ (if F = 0 then 40 else 300) < t g - t f := Or.inr hgt
        rw [if_pos hps, if_pos (Or.inr (by omega)), k4]
        rcases m1 with m1 | m1 <;> rw [m1]
        · rw [if_neg (by decide)]; omega
        · rw [if_pos rfl]; omega
set_option maxRecDepth 100000 in
set_option maxHeartbeats 4000000 in
theorem judge_l {X : GX} {h : LH} {k n : Nat} {Q : LO → LH → Prop} {tc tt tm : Tg} {c t m : Int → Int} (hc : h tc = some (cI 0 8 (arr c))) (ht : h tt = some (cI 0 8 (arr t))) (hm : h tm = some (cI 0 10 (arr m))) (Bc : ∀ z, 0 ≤ c z ∧ c z ≤ 6) (Bt : ∀ z, 0 ≤ t z ∧ t z ≤ 1000000) (hF : 0 ≤ m 9 ∧ m 9 ≤ 1) (hn : 0 ≤ m 5 ∧ m 5 ≤ 6) {r : Int} (hr : -2 ≤ r ∧ r ≤ 1) : ∀ (a i : Nat), (i : Int) + a = m 5 → J X mL_judge 179 [some (vR (some tc)), some (vR (some tt)), some (vR (some tm)), some (vI (iI r)), some (vI (iI ((jst (m 9) c t (m 5).toNat) 0))), some (vI (iI ((jst (m 9) c t (m 5).toNat) 1))), some (vI (iI ((jst (m 9) c t (m 5).toNat) 2))), some (vI (iI ((jst (m 9) c t (m 5).toNat) 3))), some (vI (iI ((jst (m 9) c t (m 5).toNat) 4))), none, none, none] [] h k n Q → J X mL_judge 18 [some (vR (some tc)), some (vR (some tt)), some (vR (some tm)), some (vI (iI r)), some (vI (iI ((jst (m 9) c t i) 0))), some (vI (iI ((jst (m 9) c t i) 1))), some (vI (iI ((jst (m 9) c t i) 2))), some (vI (iI ((jst (m 9) c t i) 3))), some (vI (iI ((jst (m 9) c t i) 4))), some (vI (iI i)), none, none] [] h k n Q := by
  intro a
  induction a with
  | zero =>
    intro i hi kk
    have ei : i = (m 5).toNat := by omega
    subst ei
    refine J_iload (M := mL_judge) dL_judge_18 rfl ?_
    refine J_aload_n (M := mL_judge) dL_judge_20 rfl rfl ?_
    refine Z_iconst (M := mL_judge) dL_judge_21 ?_
    refine Z_iald (M := mL_judge) dL_judge_22 (by assumption) (by decide) (by omega) (by omega) ?_
    refine Z_ic_ge (M := mL_judge) (tgt := 179) (by first | assumption | exact pI_rg _ | (unfold rg; omega)) (by first | assumption | exact pI_rg _ | (unfold rg; omega)) dL_judge_23 (by decide) (fun c_23 => ?_) (fun c_23 => ?_)
    · exact J_sub kk (And.intro rfl (And.intro rfl (And.intro rfl (And.intro rfl (And.intro rfl (And.intro rfl (And.intro rfl (And.intro rfl (And.intro rfl trivial)))))))))
    · omega
  | succ a ih =>
    intro i hi kk
    have b4 := jst_rg (F := m 9) Bc Bt i
    generalize hi9 : jst (m 9) c t i = s at b4 ⊢
    obtain ⟨h0, h1, h2, h3, h4⟩ := b4
    have b9 := Bc i
    have b10 := Bt i
    have hj95 : ∀ hd fs : Int, jen (m 9) (c i) s → hd = (if s 3 = 0 then s 2 else s 0) → fs = jfs (t i) s → (-1 ≤ fs ∧ fs ≤ 1000000) → J X mL_judge 95 [some (vR (some tc)), some (vR (some tt)), some (vR (some tm)), some (vI (iI r)), some (vI (iI hd)), some (vI (iI fs)), some (vI (iI (s 2))), some (vI (iI (s 3))), some (vI (iI (s 4))), some (vI (iI i)), some (vI (iI (c i / 2))), none] [] h k n Q := by
      intro hd fs hy hhd hfs hfr
      have hs12 : c i / 2 = 0 ∨ c i / 2 = 1 := by have := hy.1; omega
      refine Z_bj (M := mL_judge) (pcB := 125) ((t i - fs ≤ (if m 9 = 0 then 40 else 300))) (fun hj_125 => ?_) ?_
      · refine J_aload_n (M := mL_judge) dL_judge_95 rfl rfl ?_
        refine J_iload (M := mL_judge) dL_judge_96 rfl ?_
        refine Z_iald (M := mL_judge) dL_judge_98 (by assumption) (by decide) (by omega) (by omega) ?_
        refine J_iload (M := mL_judge) dL_judge_99 rfl ?_
        refine Z_isub (M := mL_judge) dL_judge_101 ?_
        refine Z_ij (M := mL_judge) (pcB := 117) (if m 9 = 0 then 40 else 300) (fun hj_117 => ?_) ?_
        · refine J_aload_n (M := mL_judge) dL_judge_102 rfl rfl ?_
          refine Z_bipush (M := mL_judge) dL_judge_103 rfl ?_
          refine Z_iald (M := mL_judge) dL_judge_105 (by assumption) (by decide) (by omega) (by omega) ?_
          first
            | refine Z_pt (M := mL_judge) (tgt := 114) dL_judge_106 (by decide) (fun c_106 => ?_) (fun c_106 => ?_)
            | refine Z_if_ne (M := mL_judge) (tgt := 114) (by first | assumption | exact pI_rg _ | (unfold rg; omega)) dL_judge_106 (by decide) (fun c_106 => ?_) (fun c_106 => ?_)
          · refine Z_sipush (M := mL_judge) dL_judge_114 rfl ?_
            exact hj_117 _ (by first | rw [if_pos (by omega)] | rw [if_neg (by omega)])
          · refine Z_bipush (M := mL_judge) dL_judge_109 rfl ?_
            refine J_goto (M := mL_judge) (tgt := 117) dL_judge_111 (by decide) ?_
            exact hj_117 _ (by first | rw [if_pos (by omega)] | rw [if_neg (by omega)])
        refine Z_ic_gt (M := mL_judge) (tgt := 124) (by unfold rg; omega) (by unfold rg; split <;> omega) dL_judge_117 (by decide) (fun c_117 => ?_) (fun c_117 => ?_)
        · refine Z_iconst (M := mL_judge) dL_judge_124 ?_
          exact hj_125 _ (pI_f (by first | assumption | exact Int.not_le.mpr (by assumption))).symm
        · refine Z_iconst (M := mL_judge) dL_judge_120 ?_
          refine J_goto (M := mL_judge) (tgt := 125) dL_judge_121 (by decide) ?_
          exact hj_125 _ (pI_t (by first | assumption | exact Int.not_le.mpr (by assumption))).symm
      refine J_istore (M := mL_judge) dL_judge_125 (by decide) ?_
      refine J_iload (M := mL_judge) dL_judge_127 rfl ?_
      refine Z_ij (M := mL_judge) (pcB := 142) (if (t i - fs ≤ (if m 9 = 0 then 40 else 300)) then c i / 2 + 1 else 0) (fun hj_142 => ?_) ?_
      · refine J_iload (M := mL_judge) dL_judge_129 rfl ?_
        first
          | refine Z_pf (M := mL_judge) (tgt := 141) dL_judge_131 (by decide) (fun c_131 => ?_) (fun c_131 => ?_)
          | refine Z_if_eq (M := mL_judge) (tgt := 141) (by first | assumption | exact pI_rg _ | (unfold rg; omega)) dL_judge_131 (by decide) (fun c_131 => ?_) (fun c_131 => ?_)
        · refine Z_iconst (M := mL_judge) dL_judge_141 ?_
          exact hj_142 _ (by first | rw [if_pos (by assumption)] | rw [if_neg (by assumption)])
        · refine Z_iconst (M := mL_judge) dL_judge_134 ?_
          refine J_iload (M := mL_judge) dL_judge_135 rfl ?_
          refine J_ishl (M := mL_judge) dL_judge_137 ?_
          refine J_eq (M := mL_judge) (shl_1 (by omega)) ?_
          refine J_goto (M := mL_judge) (tgt := 142) dL_judge_138 (by decide) ?_
          exact hj_142 _ (by first | rw [if_pos (by assumption)] | rw [if_neg (by assumption)])
      refine J_ior (M := mL_judge) dL_judge_142 ?_
      refine J_eq (M := mL_judge) (iI_or (by omega) (by split <;> omega)) ?_
      refine J_istore (M := mL_judge) dL_judge_143 (by decide) ?_
      refine J_iload (M := mL_judge) dL_judge_145 rfl ?_
      refine Z_ij (M := mL_judge) (pcB := 170) (if (t i - fs ≤ (if m 9 = 0 then 40 else 300)) ∧ c i % 2 = 1 then c i / 2 + 1 else 0) (fun hj_170 => ?_) ?_
      · refine J_iload (M := mL_judge) dL_judge_147 rfl ?_
        first
          | refine Z_pf (M := mL_judge) (tgt := 169) dL_judge_149 (by decide) (fun c_149 => ?_) (fun c_149 => ?_)
          | refine Z_if_eq (M := mL_judge) (tgt := 169) (by first | assumption | exact pI_rg _ | (unfold rg; omega)) dL_judge_149 (by decide) (fun c_149 => ?_) (fun c_149 => ?_)
        · refine Z_iconst (M := mL_judge) dL_judge_169 ?_
          exact hj_170 _ (by first | rw [if_pos (And.intro (by assumption) (by assumption))] | rw [if_neg (fun z => by first | exact absurd z.1 (by assumption) | exact absurd z.2 (by assumption))])
        · refine J_aload_n (M := mL_judge) dL_judge_152 rfl rfl ?_
          refine J_iload (M := mL_judge) dL_judge_153 rfl ?_
          refine Z_iald (M := mL_judge) dL_judge_155 (by assumption) (by decide) (by omega) (by omega) ?_
          refine Z_iconst (M := mL_judge) dL_judge_156 ?_
          refine Z_irem (M := mL_judge) (by omega) (by first | assumption | exact pI_rg _ | (unfold rg; omega)) (by decide) (by first | assumption | exact pI_rg _ | (unfold rg; omega)) dL_judge_157 ?_
          refine Z_iconst (M := mL_judge) dL_judge_158 ?_
          refine Z_ic_ne (M := mL_judge) (tgt := 169) (by first | assumption | exact pI_rg _ | (unfold rg; omega)) (by first | assumption | exact pI_rg _ | (unfold rg; omega)) dL_judge_159 (by decide) (fun c_159 => ?_) (fun c_159 => ?_)
          · refine Z_iconst (M := mL_judge) dL_judge_169 ?_
            exact hj_170 _ (by first | rw [if_pos (And.intro (by assumption) (by assumption))] | rw [if_neg (fun z => by first | exact absurd z.1 (by assumption) | exact absurd z.2 (by assumption))])
          · refine Z_iconst (M := mL_judge) dL_judge_162 ?_
            refine J_iload (M := mL_judge) dL_judge_163 rfl ?_
            refine J_ishl (M := mL_judge) dL_judge_165 ?_
            refine J_eq (M := mL_judge) (shl_1 (by omega)) ?_
            refine J_goto (M := mL_judge) (tgt := 170) dL_judge_166 (by decide) ?_
            exact hj_170 _ (by first | rw [if_pos (And.intro (by assumption) (by assumption))] | rw [if_neg (fun z => by first | exact absurd z.1 (by assumption) | exact absurd z.2 (by assumption))])
      refine J_ior (M := mL_judge) dL_judge_170 ?_
      refine J_eq (M := mL_judge) (iI_or (by omega) (by split <;> omega)) ?_
      refine J_istore (M := mL_judge) dL_judge_171 (by decide) ?_
      refine Z_iinc (M := mL_judge) dL_judge_173 rfl (by decide) ?_
      refine J_goto (M := mL_judge) (tgt := 18) dL_judge_176 (by decide) ?_
      have e8 : jst (m 9) c t (i + 1) = jstep (m 9) (c i) (t i) s := by rw [← hi9]; rfl
      have kk2 := ih (i + 1) (by push_cast; omega) kk
      rw [e8, jst_y hy] at kk2
      exact J_sub kk2 (And.intro rfl (And.intro rfl (And.intro rfl (And.intro rfl (And.intro (vz hhd.symm) (And.intro (vz hfs.symm) (And.intro rfl (And.intro (vz (by rw [hfs]; rfl)) (And.intro (vz (by rw [hfs]; rfl)) (And.intro (vz (by push_cast; omega)) trivial))))))))))
    refine J_iload (M := mL_judge) dL_judge_18 rfl ?_
    refine J_aload_n (M := mL_judge) dL_judge_20 rfl rfl ?_
    refine Z_iconst (M := mL_judge) dL_judge_21 ?_
    refine Z_iald (M := mL_judge) dL_judge_22 (by assumption) (by decide) (by omega) (by omega) ?_
    refine Z_ic_ge (M := mL_judge) (tgt := 179) (by first | assumption | exact pI_rg _ | (unfold rg; omega)) (by first | assumption | exact pI_rg _ | (unfold rg; omega)) dL_judge_23 (by decide) (fun c_23 => ?_) (fun c_23 => ?_)
    · omega
    · refine J_aload_n (M := mL_judge) dL_judge_26 rfl rfl ?_
      refine J_iload (M := mL_judge) dL_judge_27 rfl ?_
      refine Z_iald (M := mL_judge) dL_judge_29 (by assumption) (by decide) (by omega) (by omega) ?_
      refine Z_iconst (M := mL_judge) dL_judge_30 ?_
      refine Z_idiv (M := mL_judge) (by omega) (by first | assumption | exact pI_rg _ | (unfold rg; omega)) (by decide) (by first | assumption | exact pI_rg _ | (unfold rg; omega)) dL_judge_31 ?_
      refine J_istore (M := mL_judge) dL_judge_32 (by decide) ?_
      refine J_aload_n (M := mL_judge) dL_judge_34 rfl rfl ?_
      refine J_iload (M := mL_judge) dL_judge_35 rfl ?_
      refine Z_iald (M := mL_judge) dL_judge_37 (by assumption) (by decide) (by omega) (by omega) ?_
      refine Z_iconst (M := mL_judge) dL_judge_38 ?_
      refine Z_ic_le (M := mL_judge) (tgt := 53) (by first | assumption | exact pI_rg _ | (unfold rg; omega)) (by first | assumption | exact pI_rg _ | (unfold rg; omega)) dL_judge_39 (by decide) (fun c_39 => ?_) (fun c_39 => ?_)
      · refine J_aload_n (M := mL_judge) dL_judge_53 rfl rfl ?_
        refine Z_bipush (M := mL_judge) dL_judge_54 rfl ?_
        refine Z_iald (M := mL_judge) dL_judge_56 (by assumption) (by decide) (by omega) (by omega) ?_
        first
          | refine Z_pt (M := mL_judge) (tgt := 70) dL_judge_57 (by decide) (fun c_57 => ?_) (fun c_57 => ?_)
          | refine Z_if_ne (M := mL_judge) (tgt := 70) (by first | assumption | exact pI_rg _ | (unfold rg; omega)) dL_judge_57 (by decide) (fun c_57 => ?_) (fun c_57 => ?_)
        · have hs12 : c i / 2 = 0 ∨ c i / 2 = 1 := by omega
          have hsq := shq_rg (s := c i / 2) h3
          refine J_iload (M := mL_judge) dL_judge_70 rfl ?_
          refine J_iload (M := mL_judge) dL_judge_72 rfl ?_
          refine J_ishr (M := mL_judge) dL_judge_74 ?_
          refine J_eq (M := mL_judge) (iI_shq (by omega) (by omega)) ?_
          refine Z_iconst (M := mL_judge) dL_judge_75 ?_
          refine J_iand (M := mL_judge) dL_judge_76 ?_
          refine J_eq (M := mL_judge) (iI_and hsq (by omega)) ?_
          refine Z_if_ne (M := mL_judge) (tgt := 173) (by unfold rg; have := mand_rg (a := shq (s 3) (c i / 2)) (b := 1); have e : ((1 : Int).toNat : Int) = 1 := rfl; omega) dL_judge_77 (by decide) (fun c_77 => ?_) (fun c_77 => ?_)
          · refine Z_iinc (M := mL_judge) dL_judge_173 rfl (by decide) ?_
            refine J_goto (M := mL_judge) (tgt := 18) dL_judge_176 (by decide) ?_
            have e8 : jst (m 9) c t (i + 1) = jstep (m 9) (c i) (t i) s := by rw [← hi9]; rfl
            have kk2 := ih (i + 1) (by push_cast; omega) kk
            have hy : ¬ jen (m 9) (c i) s := by
              intro z
              obtain ⟨z1, z2, z3⟩ := z
              first | omega | contradiction
            rw [e8, jst_n hy] at kk2
            exact J_sub kk2 (And.intro rfl (And.intro rfl (And.intro rfl (And.intro rfl (And.intro rfl (And.intro rfl (And.intro (vz (by show (if 3 < c i then c i - 5 else s 2) = _; first | rw [if_pos (by omega)] | rw [if_neg (by omega)])) (And.intro rfl (And.intro rfl (And.intro (vz (by push_cast; omega)) trivial))))))))))
          · refine J_iload (M := mL_judge) dL_judge_80 rfl ?_
            first
              | refine Z_pt (M := mL_judge) (tgt := 95) dL_judge_82 (by decide) (fun c_82 => ?_) (fun c_82 => ?_)
              | refine Z_if_ne (M := mL_judge) (tgt := 95) (by first | assumption | exact pI_rg _ | (unfold rg; omega)) dL_judge_82 (by decide) (fun c_82 => ?_) (fun c_82 => ?_)
            · first
                | exact hj95 _ _ (And.intro (by omega) (And.intro (by omega) (by assumption))) (if_pos (by assumption)).symm (if_pos (by assumption)).symm (by omega)
                | exact hj95 _ _ (And.intro (by omega) (And.intro (by omega) (by assumption))) (if_neg (by assumption)).symm (if_neg (by assumption)).symm (by omega)
            · refine J_aload_n (M := mL_judge) dL_judge_85 rfl rfl ?_
              refine J_iload (M := mL_judge) dL_judge_86 rfl ?_
              refine Z_iald (M := mL_judge) dL_judge_88 (by assumption) (by decide) (by omega) (by omega) ?_
              refine J_istore (M := mL_judge) dL_judge_89 (by decide) ?_
              refine J_iload (M := mL_judge) dL_judge_91 rfl ?_
              refine J_istore (M := mL_judge) dL_judge_93 (by decide) ?_
              first
                | exact hj95 _ _ (And.intro (by omega) (And.intro (by omega) (by assumption))) (if_pos (by assumption)).symm (if_pos (by assumption)).symm (by omega)
                | exact hj95 _ _ (And.intro (by omega) (And.intro (by omega) (by assumption))) (if_neg (by assumption)).symm (if_neg (by assumption)).symm (by omega)
        · refine J_aload_n (M := mL_judge) dL_judge_60 rfl rfl ?_
          refine J_iload (M := mL_judge) dL_judge_61 rfl ?_
          refine Z_iald (M := mL_judge) dL_judge_63 (by assumption) (by decide) (by omega) (by omega) ?_
          refine Z_iconst (M := mL_judge) dL_judge_64 ?_
          refine Z_irem (M := mL_judge) (by omega) (by first | assumption | exact pI_rg _ | (unfold rg; omega)) (by decide) (by first | assumption | exact pI_rg _ | (unfold rg; omega)) dL_judge_65 ?_
          refine Z_iconst (M := mL_judge) dL_judge_66 ?_
          refine Z_ic_ne (M := mL_judge) (tgt := 173) (by first | assumption | exact pI_rg _ | (unfold rg; omega)) (by first | assumption | exact pI_rg _ | (unfold rg; omega)) dL_judge_67 (by decide) (fun c_67 => ?_) (fun c_67 => ?_)
          · refine Z_iinc (M := mL_judge) dL_judge_173 rfl (by decide) ?_
            refine J_goto (M := mL_judge) (tgt := 18) dL_judge_176 (by decide) ?_
            have e8 : jst (m 9) c t (i + 1) = jstep (m 9) (c i) (t i) s := by rw [← hi9]; rfl
            have kk2 := ih (i + 1) (by push_cast; omega) kk
            have hy : ¬ jen (m 9) (c i) s := by
              intro z
              obtain ⟨z1, z2, z3⟩ := z
              first | omega | contradiction
            rw [e8, jst_n hy] at kk2
            exact J_sub kk2 (And.intro rfl (And.intro rfl (And.intro rfl (And.intro rfl (And.intro rfl (And.intro rfl (And.intro (vz (by show (if 3 < c i then c i - 5 else s 2) = _; first | rw [if_pos (by omega)] | rw [if_neg (by omega)])) (And.intro rfl (And.intro rfl (And.intro (vz (by push_cast; omega)) trivial))))))))))
          · have hs12 : c i / 2 = 0 ∨ c i / 2 = 1 := by omega
            have hsq := shq_rg (s := c i / 2) h3
            refine J_iload (M := mL_judge) dL_judge_70 rfl ?_
            refine J_iload (M := mL_judge) dL_judge_72 rfl ?_
            refine J_ishr (M := mL_judge) dL_judge_74 ?_
            refine J_eq (M := mL_judge) (iI_shq (by omega) (by omega)) ?_
            refine Z_iconst (M := mL_judge) dL_judge_75 ?_
            refine J_iand (M := mL_judge) dL_judge_76 ?_
            refine J_eq (M := mL_judge) (iI_and hsq (by omega)) ?_
            refine Z_if_ne (M := mL_judge) (tgt := 173) (by unfold rg; have := mand_rg (a := shq (s 3) (c i / 2)) (b := 1); have e : ((1 : Int).toNat : Int) = 1 := rfl; omega) dL_judge_77 (by decide) (fun c_77 => ?_) (fun c_77 => ?_)
            · refine Z_iinc (M := mL_judge) dL_judge_173 rfl (by decide) ?_
              refine J_goto (M := mL_judge) (tgt := 18) dL_judge_176 (by decide) ?_
              have e8 : jst (m 9) c t (i + 1) = jstep (m 9) (c i) (t i) s := by rw [← hi9]; rfl
              have kk2 := ih (i + 1) (by push_cast; omega) kk
              have hy : ¬ jen (m 9) (c i) s := by
                intro z
                obtain ⟨z1, z2, z3⟩ := z
                first | omega | contradiction
              rw [e8, jst_n hy] at kk2
              exact J_sub kk2 (And.intro rfl (And.intro rfl (And.intro rfl (And.intro rfl (And.intro rfl (And.intro rfl (And.intro (vz (by show (if 3 < c i then c i - 5 else s 2) = _; first | rw [if_pos (by omega)] | rw [if_neg (by omega)])) (And.intro rfl (And.intro rfl (And.intro (vz (by push_cast; omega)) trivial))))))))))
            · refine J_iload (M := mL_judge) dL_judge_80 rfl ?_
              first
                | refine Z_pt (M := mL_judge) (tgt := 95) dL_judge_82 (by decide) (fun c_82 => ?_) (fun c_82 => ?_)
                | refine Z_if_ne (M := mL_judge) (tgt := 95) (by first | assumption | exact pI_rg _ | (unfold rg; omega)) dL_judge_82 (by decide) (fun c_82 => ?_) (fun c_82 => ?_)
              · first
                  | exact hj95 _ _ (And.intro (by omega) (And.intro (by omega) (by assumption))) (if_pos (by assumption)).symm (if_pos (by assumption)).symm (by omega)
                  | exact hj95 _ _ (And.intro (by omega) (And.intro (by omega) (by assumption))) (if_neg (by assumption)).symm (if_neg (by assumption)).symm (by omega)
              · refine J_aload_n (M := mL_judge) dL_judge_85 rfl rfl ?_
                refine J_iload (M := mL_judge) dL_judge_86 rfl ?_
                refine Z_iald (M := mL_judge) dL_judge_88 (by assumption) (by decide) (by omega) (by omega) ?_
                refine J_istore (M := mL_judge) dL_judge_89 (by decide) ?_
                refine J_iload (M := mL_judge) dL_judge_91 rfl ?_
                refine J_istore (M := mL_judge) dL_judge_93 (by decide) ?_
                first
                  | exact hj95 _ _ (And.intro (by omega) (And.intro (by omega) (by assumption))) (if_pos (by assumption)).symm (if_pos (by assumption)).symm (by omega)
                  | exact hj95 _ _ (And.intro (by omega) (And.intro (by omega) (by assumption))) (if_neg (by assumption)).symm (if_neg (by assumption)).symm (by omega)
      · refine J_aload_n (M := mL_judge) dL_judge_42 rfl rfl ?_
        refine J_iload (M := mL_judge) dL_judge_43 rfl ?_
        refine Z_iald (M := mL_judge) dL_judge_45 (by assumption) (by decide) (by omega) (by omega) ?_
        refine Z_iconst (M := mL_judge) dL_judge_46 ?_
        refine Z_isub (M := mL_judge) dL_judge_47 ?_
        refine J_istore (M := mL_judge) dL_judge_48 (by decide) ?_
        refine J_goto (M := mL_judge) (tgt := 173) dL_judge_50 (by decide) ?_
        refine Z_iinc (M := mL_judge) dL_judge_173 rfl (by decide) ?_
        refine J_goto (M := mL_judge) (tgt := 18) dL_judge_176 (by decide) ?_
        have e8 : jst (m 9) c t (i + 1) = jstep (m 9) (c i) (t i) s := by rw [← hi9]; rfl
        have kk2 := ih (i + 1) (by push_cast; omega) kk
        have hy : ¬ jen (m 9) (c i) s := by
          intro z
          obtain ⟨z1, z2, z3⟩ := z
          first | omega | contradiction
        rw [e8, jst_n hy] at kk2
        exact J_sub kk2 (And.intro rfl (And.intro rfl (And.intro rfl (And.intro rfl (And.intro rfl (And.intro rfl (And.intro (vz (by show (if 3 < c i then c i - 5 else s 2) = _; first | rw [if_pos (by omega)] | rw [if_neg (by omega)])) (And.intro rfl (And.intro rfl (And.intro (vz (by push_cast; omega)) trivial))))))))))

set_option maxRecDepth 100000 in
set_option maxHeartbeats 4000000 in
theorem rL_judge {X : GX} {h : LH} {tc tt tm : Tg} {c t m : Int → Int} (hc : h tc = some (cI 0 8 (arr c))) (ht : h tt = some (cI 0 8 (arr t))) (hm : h tm = some (cI 0 10 (arr m))) (Bc : ∀ z, 0 ≤ c z ∧ c z ≤ 6) (Bt : ∀ z, 0 ≤ t z ∧ t z ≤ 1000000) (hF : 0 ≤ m 9 ∧ m 9 ≤ 1) (hn : 0 ≤ m 5 ∧ m 5 ≤ 6) {r : Int} (hr : -2 ≤ r ∧ r ≤ 1) (St : ∀ i j : Nat, i ≤ j → (j : Int) < m 5 → t i ≤ t j) : CT X mL_judge [vR (some tc), vR (some tt), vR (some tm), vI (iI r)] h (rQ (fun v h' => v = some (vI (iI (J8 (m 9) (m 5) c t r))) ∧ h' = h)) := by
  have hJ := jfin_J8 hF hn.1 hr Bc St
  refine CT_of (by decide +kernel) rfl (Nat.le_of_ble_eq_true rfl) ?_
  refine Z_iconst (M := mL_judge) dL_judge_0 ?_
  refine J_istore (M := mL_judge) dL_judge_1 (by decide) ?_
  refine Z_iconst (M := mL_judge) dL_judge_3 ?_
  refine J_istore (M := mL_judge) dL_judge_4 (by decide) ?_
  refine Z_iconst (M := mL_judge) dL_judge_6 ?_
  refine J_istore (M := mL_judge) dL_judge_7 (by decide) ?_
  refine Z_iconst (M := mL_judge) dL_judge_9 ?_
  refine J_istore (M := mL_judge) dL_judge_10 (by decide) ?_
  refine Z_iconst (M := mL_judge) dL_judge_12 ?_
  refine J_istore (M := mL_judge) dL_judge_13 (by decide) ?_
  refine Z_iconst (M := mL_judge) dL_judge_15 ?_
  refine J_istore (M := mL_judge) dL_judge_16 (by decide) ?_
  refine J_sub (M := mL_judge) (judge_l hc ht hm Bc Bt hF hn hr (m 5).toNat 0 (by omega) ?_) (And.intro rfl (And.intro rfl (And.intro rfl (And.intro rfl (And.intro rfl (And.intro rfl (And.intro rfl (And.intro rfl (And.intro rfl (And.intro rfl trivial))))))))))
  have b4 := jst_rg (F := m 9) Bc Bt (m 5).toNat
  generalize jst (m 9) c t (m 5).toNat = s at b4 hJ ⊢
  obtain ⟨h0, h1, h2, h3, h4⟩ := b4
  refine Z_ij (M := mL_judge) (pcB := 191) (if r = -2 then s 0 else r) (fun hj_191 => ?_) ?_
  · refine J_iload_n (M := mL_judge) dL_judge_179 rfl rfl ?_
    refine Z_bipush (M := mL_judge) dL_judge_180 rfl ?_
    refine Z_ic_ne (M := mL_judge) (tgt := 190) (by first | assumption | exact pI_rg _ | (unfold rg; omega)) (by first | assumption | exact pI_rg _ | (unfold rg; omega)) dL_judge_182 (by decide) (fun c_182 => ?_) (fun c_182 => ?_)
    · refine J_iload_n (M := mL_judge) dL_judge_190 rfl rfl ?_
      exact hj_191 _ (by first | rw [if_pos (by omega)] | rw [if_neg (by omega)])
    · refine J_iload (M := mL_judge) dL_judge_185 rfl ?_
      refine J_goto (M := mL_judge) (tgt := 191) dL_judge_187 (by decide) ?_
      exact hj_191 _ (by first | rw [if_pos (by omega)] | rw [if_neg (by omega)])
  obtain ⟨y, hy⟩ : ∃ y, y = (if r = -2 then s 0 else r) := ⟨_, rfl⟩
  have hyr : -1 ≤ y ∧ y ≤ 1 ∨ r = -2 ∧ y = s 0 := by rw [hy]; split <;> omega
  rw [← hy]
  refine J_istore (M := mL_judge) dL_judge_191 (by decide) ?_
  refine J_aload_n (M := mL_judge) dL_judge_193 rfl rfl ?_
  refine Z_bipush (M := mL_judge) dL_judge_194 rfl ?_
  refine Z_iald (M := mL_judge) dL_judge_196 (by assumption) (by decide) (by omega) (by omega) ?_
  first
    | refine Z_pf (M := mL_judge) (tgt := 206) dL_judge_197 (by decide) (fun c_197 => ?_) (fun c_197 => ?_)
    | refine Z_if_eq (M := mL_judge) (tgt := 206) (by first | assumption | exact pI_rg _ | (unfold rg; omega)) dL_judge_197 (by decide) (fun c_197 => ?_) (fun c_197 => ?_)
  · refine J_iload (M := mL_judge) dL_judge_206 rfl ?_
    refine J_goto (M := mL_judge) (tgt := 227) dL_judge_208 (by decide) ?_
    refine J_iret (M := mL_judge) dL_judge_227 rfl ?_
    refine And.intro (congrArg (fun z => some (vI (iI z))) ?_) rfl
    rw [← hJ]
    unfold jfin
    rw [← hy]
    first
      | rw [if_pos (by omega)]
      | rw [if_neg (by omega), if_pos (by omega)]
      | rw [if_neg (by omega), if_neg (by omega)]
  · refine J_iload (M := mL_judge) dL_judge_200 rfl ?_
    refine Z_iconst (M := mL_judge) dL_judge_202 ?_
    refine Z_ic_eq (M := mL_judge) (tgt := 211) (by first | assumption | exact pI_rg _ | (unfold rg; omega)) (by first | assumption | exact pI_rg _ | (unfold rg; omega)) dL_judge_203 (by decide) (fun c_203 => ?_) (fun c_203 => ?_)
    · refine J_iload (M := mL_judge) dL_judge_211 rfl ?_
      refine Z_if_ge (M := mL_judge) (tgt := 220) (by first | assumption | exact pI_rg _ | (unfold rg; omega)) dL_judge_213 (by decide) (fun c_213 => ?_) (fun c_213 => ?_)
      · refine J_iload (M := mL_judge) dL_judge_220 rfl ?_
        refine Z_iconst (M := mL_judge) dL_judge_222 ?_
        refine J_iload (M := mL_judge) dL_judge_223 rfl ?_
        refine J_ishl (M := mL_judge) dL_judge_225 ?_
        refine J_eq (M := mL_judge) (shl_1 (by omega)) ?_
        refine J_iand (M := mL_judge) dL_judge_226 ?_
        refine J_eq (M := mL_judge) (iI_and (by omega) (by omega)) ?_
        refine J_iret (M := mL_judge) dL_judge_227 rfl ?_
        refine And.intro (congrArg (fun z => some (vI (iI z))) ?_) rfl
        rw [← hJ]
        unfold jfin
        rw [← hy]
        first
          | rw [if_pos (by omega)]
          | rw [if_neg (by omega), if_pos (by omega)]
          | rw [if_neg (by omega), if_neg (by omega)]
      · refine Z_iconst (M := mL_judge) dL_judge_216 ?_
        refine J_goto (M := mL_judge) (tgt := 227) dL_judge_217 (by decide) ?_
        refine J_iret (M := mL_judge) dL_judge_227 rfl ?_
        refine And.intro (congrArg (fun z => some (vI (iI z))) ?_) rfl
        rw [← hJ]
        unfold jfin
        rw [← hy]
        first
          | rw [if_pos (by omega)]
          | rw [if_neg (by omega), if_pos (by omega)]
          | rw [if_neg (by omega), if_neg (by omega)]
    · refine J_iload (M := mL_judge) dL_judge_206 rfl ?_
      refine J_goto (M := mL_judge) (tgt := 227) dL_judge_208 (by decide) ?_
      refine J_iret (M := mL_judge) dL_judge_227 rfl ?_
      refine And.intro (congrArg (fun z => some (vI (iI z))) ?_) rfl
      rw [← hJ]
      unfold jfin
      rw [← hy]
      first
        | rw [if_pos (by omega)]
        | rw [if_neg (by omega), if_pos (by omega)]
        | rw [if_neg (by omega), if_neg (by omega)]
  

