/-! the tie under what is made; person, boat, call -/
def mixg (μ ν : Mem) : Mem := (μ.1, μ.2.1, ν.2.2.1, μ.2.2.2)
theorem Gw.mix {S T : Nat → Nat → Prop} {μ ν : Mem} (a : Gw S T μ ν) : Fr S μ (mixg μ ν) := ⟨⟨rfl, fun _ => rfl, fun _ _ => rfl⟩, a.2.2.1⟩
abbrev SA (l lo hi n N h k : Nat) : Prop := (h = l ∧ k ≤ 2) ∨ (h = 27 ∧ k = l - 6) ∨ (lo ≤ h ∧ h ≤ hi ∧ k = n) ∨ N ≤ h
abbrev TA (l r N h k : Nat) : Prop := (h = l ∧ k = 1) ∨ (h = r ∧ 59 ≤ h) ∨ N ≤ h
abbrev SG (h k : Nat) : Prop := (7 ≤ h ∧ h ≤ 10) ∨ (h = 27 ∧ 1 ≤ k ∧ k ≤ 4) ∨ (30 ≤ h ∧ h ≤ 35) ∨ (37 ≤ h ∧ h ≤ 48) ∨ 59 ≤ h
theorem ST.gw {S : Nat → Nat → Prop} {l r : Nat} {μ ν : Mem} (l7 : 7 ≤ l) (l10 : l ≤ 10) (a : Gw S (TA l r (μ.1 + 4)) μ ν) (s : ST μ) : ST ν := by
  have s1 := s.1
  have hq : ∀ q ∈ GRl, q.1 < 59 ∧ ¬ (7 ≤ q.1 ∧ q.1 ≤ 10 ∧ q.2 = 1) := by decide
  refine ⟨by have := a.1; omega, fun h h1 h2 => (a.2.1 h (by omega)).trans (s.2.1 h h1 h2), fun q h => (a.2.2.2 _ _ ?_).trans (s.2.2 q h)⟩
  have := hq q h
  omega
theorem base_gw {S T : Nat → Nat → Prop} {μ ν : Mem} (a : Gw S T μ ν) (hS : ∀ h k, S h k → SG h k) (i : Inv μ) : I_misc ν ∧ I_miles ν ∧ I_needs ν ∧ I_ref ν ∧ I_tide ν ∧ I_worth ν := by
  have no : ∀ h k, ¬ SG h k → ¬ S h k := fun h k n q => n (hS h k q)
  have m := a.mix
  obtain ⟨i1, i2, i3, i4, i5, i6, i7, -⟩ := i
  have w1 : I_misc (mixg μ ν) := i2.fr m (no _ _ (by omega)) (no _ _ (by omega)) (no _ _ (by omega)) (no _ _ (by omega)) (no _ _ (by omega)) (no _ _ (by omega))
  have w2 : I_miles (mixg μ ν) := i3.fr m (fun j => no _ _ (by omega)) (fun j => no _ _ (by omega))
  have w3 : I_needs (mixg μ ν) := i4.fr m (fun j => no _ _ (by omega)) (fun j => no _ _ (by omega))
  have w4 : I_ref (mixg μ ν) := i5.fr m (fun j => no _ _ (by omega)) (fun j => no _ _ (by omega))
  have w5 : I_tide (mixg μ ν) := i6.fr m (fun j => no _ _ (by omega)) (fun j => no _ _ (by omega)) (no _ _ (by omega))
  have w6 : I_worth (mixg μ ν) := i7.fr m (fun j => no _ _ (by omega)) (fun j => no _ _ (by omega))
  exact ⟨w1, w2, w3, w4, w5, w6⟩
theorem lrow {μ : Mem} (i : Inv μ) {l : Nat} (l7 : 7 ≤ l) (l10 : l ≤ 10) : gr μ l 1 = 1 ∨ ∃ c, shp μ (gr μ l 1) = (2, c) ∧ 59 ≤ gr μ l 1 ∧ gr μ l 1 < μ.1 + 4 := by
  have key : ∀ {P n}, LST l P n μ → gr μ l 1 = 1 ∨ ∃ c, shp μ (gr μ l 1) = (2, c) ∧ 59 ≤ gr μ l 1 ∧ gr μ l 1 < μ.1 + 4 := fun L => by
    rcases L.2.1 with q | ⟨c, c1, c2, c3, c4, c5⟩
    · exact Or.inl q.2
    · exact Or.inr ⟨c, c1, c5, (bd c1 (show (2, c).1 < 900 by simp) (by omega)).2⟩
  obtain ⟨-, -, -, -, -, -, -, ⟨P, n1, -, -, L1, -⟩, ⟨B, n2, -, -, L2, -⟩, ⟨C, n3, -, -, L3, -⟩, ⟨U, n4, -, -, L4, -⟩, -⟩ := i
  have hl : l = 7 ∨ l = 8 ∨ l = 9 ∨ l = 10 := by omega
  rcases hl with h | h | h | h
  · subst h; exact key L1
  · subst h; exact key L2
  · subst h; exact key L3
  · subst h; exact key L4
theorem TA_no {μ : Mem} (i : Inv μ) {l : Nat} (l7 : 7 ≤ l) (l10 : l ≤ 10) {h j : Nat} {s : Nat × Nat} (h59 : 59 ≤ h) (hs : shp μ h = s) (s2 : s.1 ≠ 2) (s9 : s.1 < 900) : ¬ TA l (gr μ l 1) (μ.1 + 4) h j := by
  have b := bd hs s9 (by omega)
  have r := lrow i l7 l10
  rintro (q | q | q)
  · omega
  · rcases r with r | ⟨c, r, -⟩
    · omega
    · rw [← q.1, hs] at r
      exact s2 (by rw [r])
  · omega
theorem TA_no2 {μ : Mem} (i : Inv μ) {l k : Nat} (l7 : 7 ≤ l) (l10 : l ≤ 10) (k7 : 7 ≤ k) (k10 : k ≤ 10) (hk : k ≠ l) (h59 : 59 ≤ gr μ k 1) (j : Nat) : ¬ TA l (gr μ l 1) (μ.1 + 4) (gr μ k 1) j := by
  have r := lrow i k7 k10
  have el := i.2.2.2.2.2.2.2.2.2.2.2 k l k7 k10 l7 l10 hk
  rintro (q | q | q)
  · omega
  · have := el q.1
    omega
  · rcases r with r | ⟨c, -, -, r⟩ <;> omega
theorem EL.add {S : Nat → Nat → Prop} {μ ν : Mem} (i : Inv μ) {l : Nat} (l7 : 7 ≤ l) (l10 : l ≤ 10) (a : Gw S (TA l (gr μ l 1) (μ.1 + 4)) μ ν) (ed : gr ν l 1 = gr μ l 1 ∧ 59 ≤ gr μ l 1 ∨ μ.1 + 4 ≤ gr ν l 1) : EL ν := by
  have m55 := i.1.1
  have el := i.2.2.2.2.2.2.2.2.2.2.2
  have old : ∀ k, 7 ≤ k → k ≤ 10 → k ≠ l → gr ν k 1 = gr μ k 1 ∧ gr μ k 1 < μ.1 + 4 := fun k k7 k10 hk => ⟨a.2.2.2 _ _ (by omega), by rcases lrow i k7 k10 with r | ⟨c, -, -, r⟩ <;> omega⟩
  intro p q p7 p10 q7 q10 hpq he
  by_cases hp : p = l
  · subst hp
    have o := old q q7 q10 (fun z => hpq z.symm)
    rcases ed with ed | ed
    · rw [ed.1, o.1] at he
      rw [ed.1]
      exact el p q p7 p10 q7 q10 hpq he
    · omega
  · have o := old p p7 p10 hp
    by_cases hq : q = l
    · subst hq
      rcases ed with ed | ed
      · rw [ed.1, o.1] at he
        rw [o.1]
        exact el p q p7 p10 q7 q10 hpq he
      · omega
    · have o2 := old q q7 q10 hq
      rw [o.1, o2.1] at he
      rw [o.1]
      exact el p q p7 p10 q7 q10 hpq he
theorem Inv.add {S : Nat → Nat → Prop} {μ ν : Mem} (i : Inv μ) {l : Nat} (l7 : 7 ≤ l) (l10 : l ≤ 10) (a : Gw S (TA l (gr μ l 1) (μ.1 + 4)) μ ν) (hS : ∀ h k, S h k → SG h k) (ed : gr ν l 1 = gr μ l 1 ∧ 59 ≤ gr μ l 1 ∨ μ.1 + 4 ≤ gr ν l 1) (hP : ∃ P, I_ppl P ν) (hB : ∃ B, I_bts B ν) (hC : ∃ C, I_cls C ν) (hU : ∃ U, I_lgs U ν) : Inv ν := by
  obtain ⟨b1, b2, b3, b4, b5, b6⟩ := base_gw a hS i
  exact ⟨i.1.gw l7 l10 a, b1, b2, b3, b4, b5, b6, hP, hB, hC, hU, EL.add i l7 l10 a ed⟩
theorem LST.mix {S T : Nat → Nat → Prop} {μ ν : Mem} {l n : Nat} {P : Nat → Nat} (a : Gw S T μ ν) (t1 : ¬ T l 1) (t2 : 59 ≤ gr μ l 1 → ∀ j, ¬ T (gr μ l 1) j) (L : LST l P n (mixg μ ν)) : LST l P n ν := by
  have e := a.2.2.2 l 1 t1
  obtain ⟨L1, L2, L3⟩ := L
  refine ⟨L1, ?_, ?_⟩
  · rcases L2 with q | ⟨c, c1, c2, c3, c4, c5⟩
    · exact Or.inl ⟨q.1, e.trans q.2⟩
    · refine Or.inr ⟨c, ?_, c2, c3, c4, by rw [e]; exact c5⟩
      have c1 : shp μ (gr μ l 1) = (2, c) := c1
      have c5 : 59 ≤ gr μ l 1 := c5
      rw [e, a.2.1 _ (bd c1 (show (2, c).1 < 900 by simp) (by omega)).2]
      exact c1
  · intro p hp
    rcases L2 with q | ⟨c, c1, c2, c3, c4, c5⟩
    · omega
    · rw [e, a.2.2.2 _ _ (t2 c5 p)]
      exact L3 p hp
theorem PER.mix {S T : Nat → Nat → Prop} {μ ν : Mem} {P : Nat → Nat} {p : Nat} (a : Gw S T μ ν) (t : ∀ h j, 59 ≤ h → shp μ h = (9, 0) → ¬ T h j) (i : PER P p (mixg μ ν)) : PER P p ν := by
  obtain ⟨i0, i1, i2, i3, i4, i5, i6⟩ := i
  have b1 := bd (s := (9, 0)) (show shp μ (P p) = _ from i1) (by decide) (by omega)
  have b2 := bd (s := (0, 8)) (show shp μ (P p + 1) = _ from i2) (by decide) (by omega)
  have b3 := bd (s := (0, 8)) (show shp μ (P p + 2) = _ from i3) (by decide) (by omega)
  exact ⟨i0, (a.2.1 _ b1.2).trans i1, (a.2.1 _ b2.2).trans i2, (a.2.1 _ b3.2).trans i3, (a.2.2.2 _ _ (t _ _ i0 i1)).trans i4, (a.2.2.2 _ _ (t _ _ i0 i1)).trans i5, i6⟩
theorem BOA.mix {S T : Nat → Nat → Prop} {μ ν : Mem} {P : Nat → Nat} {p : Nat} (a : Gw S T μ ν) (t : ∀ h j, 59 ≤ h → shp μ h = (3, 0) → ¬ T h j) (i : BOA P p (mixg μ ν)) : BOA P p ν := by
  obtain ⟨i0, i1, i2, i4, i6⟩ := i
  have b1 := bd (s := (3, 0)) (show shp μ (P p) = _ from i1) (by decide) (by omega)
  have b2 := bd (s := (0, 5)) (show shp μ (P p + 1) = _ from i2) (by decide) (by omega)
  exact ⟨i0, (a.2.1 _ b1.2).trans i1, (a.2.1 _ b2.2).trans i2, (a.2.2.2 _ _ (t _ _ i0 i1)).trans i4, i6⟩
theorem CAL.mix {S T : Nat → Nat → Prop} {μ ν : Mem} {P : Nat → Nat} {p : Nat} (a : Gw S T μ ν) (i : CAL P p (mixg μ ν)) : CAL P p ν := by
  obtain ⟨i0, i1, i6⟩ := i
  have b1 := bd (s := (4, 0)) (show shp μ (P p) = _ from i1) (by decide) (by omega)
  exact ⟨i0, (a.2.1 _ b1.2).trans i1, i6⟩
theorem LAU.mix {S T : Nat → Nat → Prop} {μ ν : Mem} {P : Nat → Nat} {p : Nat} (a : Gw S T μ ν) (i : LAU P p (mixg μ ν)) : LAU P p ν := by
  obtain ⟨i0, i1, i6⟩ := i
  have b1 := bd (s := (7, 0)) (show shp μ (P p) = _ from i1) (by decide) (by omega)
  exact ⟨i0, (a.2.1 _ b1.2).trans i1, i6⟩
section OT
variable {S : Nat → Nat → Prop} {μ ν : Mem} {l : Nat} {P : Nat → Nat}
theorem I_ppl.gw (i : Inv μ) (l7 : 7 ≤ l) (l10 : l ≤ 10) (a : Gw S (TA l (gr μ l 1) (μ.1 + 4)) μ ν) (hl : l ≠ 7) (h0 : ¬ S 27 1) (h3 : ¬ S 7 2) (h1 : ∀ h j, 30 ≤ h → h ≤ 35 → ¬ S h j) (h2 : ∀ h j, 59 ≤ h → h < μ.1 + 4 → ¬ S h j ∨ shp μ h = (3, 0)) (j : I_ppl P μ) : I_ppl P ν := by
  have m55 := i.1.1
  have h2' : ∀ h j, 59 ≤ h → shp μ h = (9, 0) ∨ shp μ h = (0, 8) → ¬ S h j := fun h j g1 g2 => by
    have b : h < μ.1 + 4 := by rcases g2 with g | g <;> exact (bd g (by decide) (by omega)).2
    rcases h2 h j g1 b with q | q
    · exact q
    · rcases g2 with g | g <;> (rw [g] at q; simp at q)
  obtain ⟨n, j0, j1, j2, j3, j4⟩ := j.fr a.mix h0 h3 h1 h2'
  exact ⟨n, j0, j1, j2.mix a (by omega) (fun g k => TA_no2 i l7 l10 (by decide) (by decide) (fun z => hl z.symm) g k), fun p hp => (j3 p hp).mix a (fun h k g1 g2 => TA_no i l7 l10 g1 g2 (by decide) (by decide)), j4⟩
theorem I_bts.gw (i : Inv μ) (l7 : 7 ≤ l) (l10 : l ≤ 10) (a : Gw S (TA l (gr μ l 1) (μ.1 + 4)) μ ν) (hl : l ≠ 8) (h0 : ¬ S 27 2) (h3 : ¬ S 8 2) (h1 : ∀ h j, 37 ≤ h → h ≤ 40 → ¬ S h j) (h2 : ∀ h j, 59 ≤ h → h < μ.1 + 4 → ¬ S h j) (j : I_bts P μ) : I_bts P ν := by
  have m55 := i.1.1
  have h2' : ∀ h j, 59 ≤ h → shp μ h = (3, 0) ∨ shp μ h = (0, 5) → ¬ S h j := fun h j g1 g2 => by
    have b : h < μ.1 + 4 := by rcases g2 with g | g <;> exact (bd g (by decide) (by omega)).2
    exact h2 h j g1 b
  obtain ⟨n, j0, j1, j2, j3, j4⟩ := j.fr a.mix h0 h3 h1 h2'
  exact ⟨n, j0, j1, j2.mix a (by omega) (fun g k => TA_no2 i l7 l10 (by decide) (by decide) (fun z => hl z.symm) g k), fun p hp => (j3 p hp).mix a (fun h k g1 g2 => TA_no i l7 l10 g1 g2 (by decide) (by decide)), j4⟩
theorem I_cls.gw (i : Inv μ) (l7 : 7 ≤ l) (l10 : l ≤ 10) (a : Gw S (TA l (gr μ l 1) (μ.1 + 4)) μ ν) (hl : l ≠ 9) (h0 : ¬ S 27 3) (h3 : ¬ S 9 2) (h1 : ∀ h j, 41 ≤ h → h ≤ 43 → ¬ S h j) (h2 : ∀ h j, 59 ≤ h → h < μ.1 + 4 → ¬ S h j ∨ shp μ h = (3, 0)) (j : I_cls P μ) : I_cls P ν := by
  have m55 := i.1.1
  have h2' : ∀ h j, 59 ≤ h → shp μ h = (4, 0) → ¬ S h j := fun h j g1 g => by
    rcases h2 h j g1 (bd g (by decide) (by omega)).2 with q | q
    · exact q
    · rw [g] at q; simp at q
  obtain ⟨n, j0, j1, j2, j3, j4⟩ := j.fr a.mix h0 h3 h1 h2'
  exact ⟨n, j0, j1, j2.mix a (by omega) (fun g k => TA_no2 i l7 l10 (by decide) (by decide) (fun z => hl z.symm) g k), fun p hp => (j3 p hp).mix a, j4⟩
theorem I_lgs.gw (i : Inv μ) (l7 : 7 ≤ l) (l10 : l ≤ 10) (a : Gw S (TA l (gr μ l 1) (μ.1 + 4)) μ ν) (hl : l ≠ 10) (h0 : ¬ S 27 4) (h3 : ¬ S 10 2) (h1 : ∀ h j, 44 ≤ h → h ≤ 48 → ¬ S h j) (h2 : ∀ h j, 59 ≤ h → h < μ.1 + 4 → ¬ S h j) (j : I_lgs P μ) : I_lgs P ν := by
  have m55 := i.1.1
  have h2' : ∀ h j, 59 ≤ h → shp μ h = (7, 0) → ¬ S h j := fun h j g1 g => h2 h j g1 (bd g (by decide) (by omega)).2
  obtain ⟨n, j0, j1, j2, j3, j4⟩ := j.fr a.mix h0 h3 h1 h2'
  exact ⟨n, j0, j1, j2.mix a (by omega) (fun g k => TA_no2 i l7 l10 (by decide) (by decide) (fun z => hl z.symm) g k), fun p hp => (j3 p hp).mix a, j4⟩
end OT
