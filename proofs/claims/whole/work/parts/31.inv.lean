/-! the tie between the house's cells and the model's -/
def str (μ μ' : Mem) : Prop := μ'.1 = μ.1 ∧ (∀ h, shp μ' h = shp μ h) ∧ (∀ h k, gr μ' h k = gr μ h k)
/-- from μ to μ' only numbers at W were written -/
def Fr (S : Nat → Nat → Prop) (μ μ' : Mem) : Prop := str μ μ' ∧ ∀ h k, ¬ S h k → gi μ' h k = gi μ h k
theorem Fr.rf {S : Nat → Nat → Prop} {μ : Mem} : Fr S μ μ := ⟨⟨rfl, fun _ => rfl, fun _ _ => rfl⟩, fun _ _ _ => rfl⟩
theorem Fr.tr {S : Nat → Nat → Prop} {μ μ1 μ2 : Mem} (a : Fr S μ μ1) (b : Fr S μ1 μ2) : Fr S μ μ2 :=
  ⟨⟨b.1.1.trans a.1.1, fun h => (b.1.2.1 h).trans (a.1.2.1 h), fun h k => (b.1.2.2 h k).trans (a.1.2.2 h k)⟩, fun h k n => (b.2 h k n).trans (a.2 h k n)⟩
theorem Fr.up {S S' : Nat → Nat → Prop} {μ μ1 : Mem} (a : Fr S μ μ1) (hs : ∀ h k, S h k → S' h k) : Fr S' μ μ1 := ⟨a.1, fun h k n => a.2 h k (fun q => n (hs h k q))⟩
theorem Fr.si {S : Nat → Nat → Prop} {μ : Mem} {h k : Nat} {x : Int32} (hs : S h k) : Fr S μ (si μ h k x) :=
  ⟨⟨rfl, fun _ => rfl, fun _ _ => rfl⟩, fun a j n => by rw [gi_si]; exact if_neg (fun q => n (by rw [q.1, q.2]; exact hs))⟩
theorem Fr.mcI {S : Nat → Nat → Prop} {μ : Mem} {a b c d e : Nat} (hs : ∀ k, S c k) : Fr S μ (mcI μ a b c d e) :=
  ⟨⟨rfl, fun _ => rfl, fun _ _ => rfl⟩, fun h j n => by rw [gi_mcI]; exact if_neg (fun q => n (by rw [q]; exact hs j))⟩
theorem ST.fr {S : Nat → Nat → Prop} {μ μ1 : Mem} (s : ST μ) (a : Fr S μ μ1) : ST μ1 :=
  ⟨by rw [a.1.1]; exact s.1, fun h h1 h2 => (a.1.2.1 h).trans (s.2.1 h h1 h2), fun q hq => (a.1.2.2 _ _).trans (s.2.2 q hq)⟩
abbrev rng (x : Int32) (lo hi : Int) : Prop := lo ≤ x.toInt ∧ x.toInt ≤ hi
def I_misc (μ : Mem) : Prop := gi μ 4 12 = gi μ 27 0 ∧ gi μ 4 13 = gi μ 27 5 ∧ gi μ 4 14 = gi μ 27 6 ∧ rng (gi μ 27 0) 0 200000 ∧ rng (gi μ 27 5) 2 6 ∧ rng (gi μ 27 6) 5 30
def I_miles (μ : Mem) : Prop := ∀ j, j < 6 → gi μ 5 j = gi μ 28 j ∧ rng (gi μ 28 j) 0 300
def I_needs (μ : Mem) : Prop := ∀ j, j < 6 → gi μ 6 j = gi μ 29 j ∧ rng (gi μ 29 j) 0 12
def I_ref (μ : Mem) : Prop := ∀ j, j < 7 → gi μ 26 j = gi μ 52 j
/-- the least told one among the first n; -1 if there is none -/
def lst (f : Nat → Int32) : Nat → Int32
  | 0 => -1
  | n + 1 => if f n < 0 then lst f n else if lst f n < 0 then f n else if f n < lst f n then f n else lst f n
def I_tide (μ : Mem) : Prop := (∀ j, j < 25 → gi μ 12 j = gi μ 36 j ∧ rng (gi μ 36 j) (-1) 12) ∧ gi μ 11 1 = (if lst (gi μ 36) 25 < 0 then 0 else lst (gi μ 36) 25)
def I_worth (μ : Mem) : Prop := ∀ j, j < 12 → gi μ 23 j = gi μ 49 j ∧ rng (gi μ 49 j) 0 9999
/-- the list l holds P 0 .. P (n - 1) -/
def LST (l : Nat) (P : Nat → Nat) (n : Nat) (μ : Mem) : Prop := gi μ l 2 = nI n ∧ ((n = 0 ∧ gr μ l 1 = 1) ∨ ∃ cap, shp μ (gr μ l 1) = (2, cap) ∧ n ≤ cap ∧ 1 ≤ cap ∧ cap ≤ 64 ∧ 59 ≤ gr μ l 1) ∧ ∀ p, p < n → gr μ (gr μ l 1) p = P p
def PER (P : Nat → Nat) (p : Nat) (μ : Mem) : Prop := 59 ≤ P p ∧ shp μ (P p) = (9, 0) ∧ shp μ (P p + 1) = (0, 8) ∧ shp μ (P p + 2) = (0, 8) ∧ gr μ (P p) 2 = P p + 1 ∧ gr μ (P p) 3 = P p + 2 ∧
  gi μ (P p) 0 = gi μ 30 p ∧ gi μ (P p) 1 = gi μ 31 p ∧ gi μ (P p) 4 = gi μ 32 p ∧ gi μ (P p) 5 = gi μ 33 p ∧ (∀ b, b < 8 → gi μ (P p + 1) b = gi μ 34 (8 * p + b) ∧ gi μ (P p + 2) b = gi μ 35 (8 * p + b)) ∧
  rng (gi μ 30 p) 0 5 ∧ rng (gi μ 31 p) 0 15 ∧ rng (gi μ 32 p) 0 200 ∧ rng (gi μ 33 p) 0 200000 ∧ (∀ b, b < 8 → rng (gi μ 34 (8 * p + b)) 0 200 ∧ rng (gi μ 35 (8 * p + b)) 0 (gi μ 34 (8 * p + b)).toInt)
def I_ppl (P : Nat → Nat) (μ : Mem) : Prop := ∃ n : Nat, n ≤ 40 ∧ gi μ 27 1 = nI n ∧ LST 7 P n μ ∧ (∀ p, p < n → PER P p μ) ∧ (∀ p q, p < q → q < n → P p + 3 ≤ P q) ∧ (∀ i, 8 * n ≤ i → i < 320 → gi μ 34 i = 0 ∧ gi μ 35 i = 0) ∧ (∀ p, n ≤ p → p < 40 → gi μ 33 p = 0)
def BOA (B : Nat → Nat) (b : Nat) (μ : Mem) : Prop := 59 ≤ B b ∧ shp μ (B b) = (3, 0) ∧ shp μ (B b + 1) = (0, 5) ∧ gr μ (B b) 1 = B b + 1 ∧ gi μ (B b) 0 = gi μ 38 b ∧ gi μ (B b) 2 = gi μ 37 b ∧ gi μ (B b) 3 = gi μ 39 b ∧ (∀ j, j < 5 → gi μ (B b + 1) j = gi μ 40 (5 * b + j)) ∧
  rng (gi μ 38 b) 1 20 ∧ rng (gi μ 37 b) 0 5 ∧ rng (gi μ 39 b) 0 300000 ∧ (∀ j, j < 5 → rng (gi μ 40 (5 * b + j)) 0 30)
def I_bts (B : Nat → Nat) (μ : Mem) : Prop := ∃ n : Nat, n ≤ 8 ∧ gi μ 27 2 = nI n ∧ LST 8 B n μ ∧ (∀ b, b < n → BOA B b μ) ∧ (∀ p q, p < q → q < n → B p + 2 ≤ B q) ∧ (∀ i, 5 * n ≤ i → i < 40 → gi μ 40 i = 0) ∧ (∀ b, n ≤ b → b < 8 → gi μ 39 b = 0)
def CAL (C : Nat → Nat) (c : Nat) (μ : Mem) : Prop := 59 ≤ C c ∧ shp μ (C c) = (4, 0) ∧ gi μ (C c) 0 = gi μ 41 c ∧ gi μ (C c) 1 = gi μ 42 c ∧ gi μ (C c) 2 = gi μ 43 c ∧ rng (gi μ 41 c) 0 300 ∧ rng (gi μ 42 c) 0 60 ∧ rng (gi μ 43 c) 0 4
def I_cls (C : Nat → Nat) (μ : Mem) : Prop := ∃ n : Nat, n ≤ 20 ∧ gi μ 27 3 = nI n ∧ LST 9 C n μ ∧ (∀ c, c < n → CAL C c μ) ∧ (∀ p q, p < q → q < n → C p + 1 ≤ C q)
def LAU (U : Nat → Nat) (u : Nat) (μ : Mem) : Prop := 59 ≤ U u ∧ shp μ (U u) = (7, 0) ∧ gi μ (U u) 0 = gi μ 44 u ∧ gi μ (U u) 1 = gi μ 45 u ∧ gi μ (U u) 2 = gi μ 46 u ∧ gi μ (U u) 3 = gi μ 47 u ∧ gi μ (U u) 4 = gi μ 48 u
def I_lgs (U : Nat → Nat) (μ : Mem) : Prop := ∃ n : Nat, n ≤ 40 ∧ gi μ 27 4 = nI n ∧ LST 10 U n μ ∧ (∀ u, u < n → LAU U u μ) ∧ (∀ p q, p < q → q < n → U p + 1 ≤ U q)
def EL (μ : Mem) : Prop := ∀ l k, 7 ≤ l → l ≤ 10 → 7 ≤ k → k ≤ 10 → l ≠ k → gr μ l 1 = gr μ k 1 → gr μ l 1 = 1
def Inv (μ : Mem) : Prop := ST μ ∧ I_misc μ ∧ I_miles μ ∧ I_needs μ ∧ I_ref μ ∧ I_tide μ ∧ I_worth μ ∧ (∃ P, I_ppl P μ) ∧ (∃ B, I_bts B μ) ∧ (∃ C, I_cls C μ) ∧ (∃ U, I_lgs U μ) ∧ EL μ
/-! each part of the tie, under writes elsewhere -/
theorem I_misc.fr {S : Nat → Nat → Prop} {μ μ1 : Mem} (a : Fr S μ μ1) (h1 : ¬ S 4 12) (h2 : ¬ S 4 13) (h3 : ¬ S 4 14) (h4 : ¬ S 27 0) (h5 : ¬ S 27 5) (h6 : ¬ S 27 6) (i : I_misc μ) : I_misc μ1 := by
  unfold I_misc at i ⊢
  rw [a.2 _ _ h1, a.2 _ _ h2, a.2 _ _ h3, a.2 _ _ h4, a.2 _ _ h5, a.2 _ _ h6]
  exact i
theorem I_miles.fr {S : Nat → Nat → Prop} {μ μ1 : Mem} (a : Fr S μ μ1) (h1 : ∀ j, ¬ S 5 j) (h2 : ∀ j, ¬ S 28 j) (i : I_miles μ) : I_miles μ1 := fun j hj => by
  rw [a.2 _ _ (h1 j), a.2 _ _ (h2 j)]; exact i j hj
theorem I_needs.fr {S : Nat → Nat → Prop} {μ μ1 : Mem} (a : Fr S μ μ1) (h1 : ∀ j, ¬ S 6 j) (h2 : ∀ j, ¬ S 29 j) (i : I_needs μ) : I_needs μ1 := fun j hj => by
  rw [a.2 _ _ (h1 j), a.2 _ _ (h2 j)]; exact i j hj
theorem I_ref.fr {S : Nat → Nat → Prop} {μ μ1 : Mem} (a : Fr S μ μ1) (h1 : ∀ j, ¬ S 26 j) (h2 : ∀ j, ¬ S 52 j) (i : I_ref μ) : I_ref μ1 := fun j hj => by
  rw [a.2 _ _ (h1 j), a.2 _ _ (h2 j)]; exact i j hj
theorem I_worth.fr {S : Nat → Nat → Prop} {μ μ1 : Mem} (a : Fr S μ μ1) (h1 : ∀ j, ¬ S 23 j) (h2 : ∀ j, ¬ S 49 j) (i : I_worth μ) : I_worth μ1 := fun j hj => by
  rw [a.2 _ _ (h1 j), a.2 _ _ (h2 j)]; exact i j hj
theorem I_tide.fr {S : Nat → Nat → Prop} {μ μ1 : Mem} (a : Fr S μ μ1) (h1 : ∀ j, ¬ S 12 j) (h2 : ∀ j, ¬ S 36 j) (h3 : ¬ S 11 1) (i : I_tide μ) : I_tide μ1 := by
  have e : gi μ1 36 = gi μ 36 := funext fun j => a.2 _ _ (h2 j)
  have e1 : gi μ1 12 = gi μ 12 := funext fun j => a.2 _ _ (h1 j)
  unfold I_tide at i ⊢
  rw [e, e1, a.2 _ _ h3]
  exact i
theorem LST.fr {S : Nat → Nat → Prop} {μ μ1 : Mem} {l : Nat} {P : Nat → Nat} {n : Nat} (a : Fr S μ μ1) (h1 : ¬ S l 2) (i : LST l P n μ) : LST l P n μ1 := by
  unfold LST at i ⊢
  rw [a.2 _ _ h1, a.1.2.2 l 1, a.1.2.1]
  exact ⟨i.1, i.2.1, fun p hp => by rw [a.1.2.2]; exact i.2.2 p hp⟩
theorem PER.fr {S : Nat → Nat → Prop} {μ μ1 : Mem} {P : Nat → Nat} {p : Nat} (a : Fr S μ μ1) (h1 : ∀ h j, 30 ≤ h → h ≤ 35 → ¬ S h j) (h2 : ∀ h j, 59 ≤ h → shp μ h = (9, 0) ∨ shp μ h = (0, 8) → ¬ S h j) (i : PER P p μ) : PER P p μ1 := by
  unfold PER at i ⊢
  obtain ⟨i0, i1, i2, i3, i4, i5, i6, i7, i8, i9, i10, i11⟩ := i
  have e0 : gi μ1 (P p) = gi μ (P p) := funext fun j => a.2 _ _ (h2 _ _ i0 (Or.inl i1))
  have e1 : gi μ1 (P p + 1) = gi μ (P p + 1) := funext fun j => a.2 _ _ (h2 _ _ (by omega) (Or.inr i2))
  have e2 : gi μ1 (P p + 2) = gi μ (P p + 2) := funext fun j => a.2 _ _ (h2 _ _ (by omega) (Or.inr i3))
  have e3 : ∀ h, 30 ≤ h → h ≤ 35 → gi μ1 h = gi μ h := fun h g1 g2 => funext fun j => a.2 _ _ (h1 h j g1 g2)
  rw [a.1.2.1, a.1.2.1, a.1.2.1, a.1.2.2, a.1.2.2, e0, e1, e2, e3 30 (by decide) (by decide), e3 31 (by decide) (by decide), e3 32 (by decide) (by decide), e3 33 (by decide) (by decide), e3 34 (by decide) (by decide), e3 35 (by decide) (by decide)]
  exact ⟨i0, i1, i2, i3, i4, i5, i6, i7, i8, i9, i10, i11⟩
theorem I_ppl.fr {S : Nat → Nat → Prop} {μ μ1 : Mem} {P : Nat → Nat} (a : Fr S μ μ1) (h0 : ¬ S 27 1) (h3 : ¬ S 7 2) (h1 : ∀ h j, 30 ≤ h → h ≤ 35 → ¬ S h j) (h2 : ∀ h j, 59 ≤ h → shp μ h = (9, 0) ∨ shp μ h = (0, 8) → ¬ S h j) (i : I_ppl P μ) : I_ppl P μ1 := by
  obtain ⟨n, i0, i1, i2, i3, i4, i5, i6⟩ := i
  refine ⟨n, i0, by rw [a.2 _ _ h0]; exact i1, i2.fr a h3, fun p hp => (i3 p hp).fr a h1 h2, i4, fun i g1 g2 => ?_, fun p g1 g2 => ?_⟩
  · rw [a.2 _ _ (h1 34 i (by decide) (by decide)), a.2 _ _ (h1 35 i (by decide) (by decide))]; exact i5 i g1 g2
  · rw [a.2 _ _ (h1 33 p (by decide) (by decide))]; exact i6 p g1 g2
theorem BOA.fr {S : Nat → Nat → Prop} {μ μ1 : Mem} {P : Nat → Nat} {p : Nat} (a : Fr S μ μ1) (h1 : ∀ h j, 37 ≤ h → h ≤ 40 → ¬ S h j) (h2 : ∀ h j, 59 ≤ h → shp μ h = (3, 0) ∨ shp μ h = (0, 5) → ¬ S h j) (i : BOA P p μ) : BOA P p μ1 := by
  unfold BOA at i ⊢
  obtain ⟨i0, i1, i2, i3, i4⟩ := i
  have e0 : gi μ1 (P p) = gi μ (P p) := funext fun j => a.2 _ _ (h2 _ _ i0 (Or.inl i1))
  have e1 : gi μ1 (P p + 1) = gi μ (P p + 1) := funext fun j => a.2 _ _ (h2 _ _ (by omega) (Or.inr i2))
  have e3 : ∀ h, 37 ≤ h → h ≤ 40 → gi μ1 h = gi μ h := fun h g1 g2 => funext fun j => a.2 _ _ (h1 h j g1 g2)
  rw [a.1.2.1, a.1.2.1, a.1.2.2, e0, e1, e3 37 (by decide) (by decide), e3 38 (by decide) (by decide), e3 39 (by decide) (by decide), e3 40 (by decide) (by decide)]
  exact ⟨i0, i1, i2, i3, i4⟩
theorem I_bts.fr {S : Nat → Nat → Prop} {μ μ1 : Mem} {P : Nat → Nat} (a : Fr S μ μ1) (h0 : ¬ S 27 2) (h3 : ¬ S 8 2) (h1 : ∀ h j, 37 ≤ h → h ≤ 40 → ¬ S h j) (h2 : ∀ h j, 59 ≤ h → shp μ h = (3, 0) ∨ shp μ h = (0, 5) → ¬ S h j) (i : I_bts P μ) : I_bts P μ1 := by
  obtain ⟨n, i0, i1, i2, i3, i4, i5, i6⟩ := i
  refine ⟨n, i0, by rw [a.2 _ _ h0]; exact i1, i2.fr a h3, fun p hp => (i3 p hp).fr a h1 h2, i4, fun i g1 g2 => ?_, fun p g1 g2 => ?_⟩
  · rw [a.2 _ _ (h1 40 i (by decide) (by decide))]; exact i5 i g1 g2
  · rw [a.2 _ _ (h1 39 p (by decide) (by decide))]; exact i6 p g1 g2
theorem I_cls.fr {S : Nat → Nat → Prop} {μ μ1 : Mem} {P : Nat → Nat} (a : Fr S μ μ1) (h0 : ¬ S 27 3) (h3 : ¬ S 9 2) (h1 : ∀ h j, 41 ≤ h → h ≤ 43 → ¬ S h j) (h2 : ∀ h j, 59 ≤ h → shp μ h = (4, 0) → ¬ S h j) (i : I_cls P μ) : I_cls P μ1 := by
  obtain ⟨n, i0, i1, i2, i3, i4⟩ := i
  refine ⟨n, i0, by rw [a.2 _ _ h0]; exact i1, i2.fr a h3, fun p hp => ?_, i4⟩
  have i3 := i3 p hp
  unfold CAL at i3 ⊢
  have e0 : gi μ1 (P p) = gi μ (P p) := funext fun j => a.2 _ _ (h2 _ _ i3.1 i3.2.1)
  have e3 : ∀ h, 41 ≤ h → h ≤ 43 → gi μ1 h = gi μ h := fun h g1 g2 => funext fun j => a.2 _ _ (h1 h j g1 g2)
  rw [a.1.2.1, e0, e3 41 (by decide) (by decide), e3 42 (by decide) (by decide), e3 43 (by decide) (by decide)]
  exact i3
theorem I_lgs.fr {S : Nat → Nat → Prop} {μ μ1 : Mem} {P : Nat → Nat} (a : Fr S μ μ1) (h0 : ¬ S 27 4) (h3 : ¬ S 10 2) (h1 : ∀ h j, 44 ≤ h → h ≤ 48 → ¬ S h j) (h2 : ∀ h j, 59 ≤ h → shp μ h = (7, 0) → ¬ S h j) (i : I_lgs P μ) : I_lgs P μ1 := by
  obtain ⟨n, i0, i1, i2, i3, i4⟩ := i
  refine ⟨n, i0, by rw [a.2 _ _ h0]; exact i1, i2.fr a h3, fun p hp => ?_, i4⟩
  have i3 := i3 p hp
  unfold LAU at i3 ⊢
  have e0 : gi μ1 (P p) = gi μ (P p) := funext fun j => a.2 _ _ (h2 _ _ i3.1 i3.2.1)
  have e3 : ∀ h, 44 ≤ h → h ≤ 48 → gi μ1 h = gi μ h := fun h g1 g2 => funext fun j => a.2 _ _ (h1 h j g1 g2)
  rw [a.1.2.1, e0, e3 44 (by decide) (by decide), e3 45 (by decide) (by decide), e3 46 (by decide) (by decide), e3 47 (by decide) (by decide), e3 48 (by decide) (by decide)]
  exact i3
theorem EL.fr {S : Nat → Nat → Prop} {μ μ1 : Mem} (a : Fr S μ μ1) (i : EL μ) : EL μ1 := fun l k h1 h2 h3 h4 h5 h6 => by
  rw [a.1.2.2] at h6 ⊢
  rw [a.1.2.2] at h6
  exact i l k h1 h2 h3 h4 h5 h6
/-- all parts, where W touches none of their cells -/
theorem Inv.fr {S : Nat → Nat → Prop} {μ μ1 : Mem} (a : Fr S μ μ1) (hS : ∀ h k, S h k → h < 59 ∧ ((13 ≤ h ∧ h ≤ 22) ∨ h = 24 ∨ h = 25 ∨ h = 50 ∨ h = 51 ∨ 53 ≤ h ∨ (h = 27 ∧ 7 ≤ k))) (i : Inv μ) : Inv μ1 := by
  obtain ⟨i1, i2, i3, i4, i5, i6, i7, ⟨P, i8⟩, ⟨B, i9⟩, ⟨C, i10⟩, ⟨U, i11⟩, i12⟩ := i
  have no : ∀ h k, ¬ (h < 59 ∧ ((13 ≤ h ∧ h ≤ 22) ∨ h = 24 ∨ h = 25 ∨ h = 50 ∨ h = 51 ∨ 53 ≤ h ∨ (h = 27 ∧ 7 ≤ k))) → ¬ S h k := fun h k n q => n (hS h k q)
  refine ⟨i1.fr a, i2.fr a (no _ _ (by omega)) (no _ _ (by omega)) (no _ _ (by omega)) (no _ _ (by omega)) (no _ _ (by omega)) (no _ _ (by omega)), i3.fr a (fun j => no _ _ (by omega)) (fun j => no _ _ (by omega)), i4.fr a (fun j => no _ _ (by omega)) (fun j => no _ _ (by omega)), i5.fr a (fun j => no _ _ (by omega)) (fun j => no _ _ (by omega)), i6.fr a (fun j => no _ _ (by omega)) (fun j => no _ _ (by omega)) (no _ _ (by omega)), i7.fr a (fun j => no _ _ (by omega)) (fun j => no _ _ (by omega)),
    ⟨P, i8.fr a (no _ _ (by omega)) (no _ _ (by omega)) (fun h j g1 g2 => no _ _ (by omega)) (fun h j g1 _ => no _ _ (by omega))⟩, ⟨B, i9.fr a (no _ _ (by omega)) (no _ _ (by omega)) (fun h j g1 g2 => no _ _ (by omega)) (fun h j g1 _ => no _ _ (by omega))⟩, ⟨C, i10.fr a (no _ _ (by omega)) (no _ _ (by omega)) (fun h j g1 g2 => no _ _ (by omega)) (fun h j g1 _ => no _ _ (by omega))⟩, ⟨U, i11.fr a (no _ _ (by omega)) (no _ _ (by omega)) (fun h j g1 g2 => no _ _ (by omega)) (fun h j g1 _ => no _ _ (by omega))⟩, i12.fr a⟩
/-- the start -/
theorem muI_Inv : Inv muI := by
  refine ⟨muI_ST, ⟨by decide +kernel, by decide +kernel, by decide +kernel, by decide +kernel, by decide +kernel, by decide +kernel⟩, by unfold I_miles; decide +kernel, by unfold I_needs; decide +kernel, by unfold I_ref; decide +kernel, ⟨by decide +kernel, by decide +kernel⟩, by unfold I_worth; decide +kernel,
    ⟨fun _ => 0, 0, by decide, by decide +kernel, ⟨by decide +kernel, Or.inl ⟨rfl, by decide +kernel⟩, fun p h => absurd h (Nat.not_lt_zero p)⟩, fun p h => absurd h (Nat.not_lt_zero p), fun p q _ h => absurd h (Nat.not_lt_zero q), ?_, ?_⟩,
    ⟨fun _ => 0, 0, by decide, by decide +kernel, ⟨by decide +kernel, Or.inl ⟨rfl, by decide +kernel⟩, fun p h => absurd h (Nat.not_lt_zero p)⟩, fun p h => absurd h (Nat.not_lt_zero p), fun p q _ h => absurd h (Nat.not_lt_zero q), ?_, ?_⟩,
    ⟨fun _ => 0, 0, by decide, by decide +kernel, ⟨by decide +kernel, Or.inl ⟨rfl, by decide +kernel⟩, fun p h => absurd h (Nat.not_lt_zero p)⟩, fun p h => absurd h (Nat.not_lt_zero p), fun p q _ h => absurd h (Nat.not_lt_zero q)⟩,
    ⟨fun _ => 0, 0, by decide, by decide +kernel, ⟨by decide +kernel, Or.inl ⟨rfl, by decide +kernel⟩, fun p h => absurd h (Nat.not_lt_zero p)⟩, fun p h => absurd h (Nat.not_lt_zero p), fun p q _ h => absurd h (Nat.not_lt_zero q)⟩, ?_⟩
  · have h : ∀ i, i < 320 → gi muI 34 i = 0 ∧ gi muI 35 i = 0 := by decide +kernel
    exact fun i _ g => h i g
  · have h : ∀ i, i < 40 → gi muI 33 i = 0 := by decide +kernel
    exact fun i _ g => h i g
  · have h : ∀ i, i < 40 → gi muI 40 i = 0 := by decide +kernel
    exact fun i _ g => h i g
  · have h : ∀ i, i < 8 → gi muI 39 i = 0 := by decide +kernel
    exact fun i _ g => h i g
  · have h : ∀ l, l < 11 → 7 ≤ l → gr muI l 1 = 1 := by decide +kernel
    exact fun l k h1 h2 _ _ _ _ => h l (by omega) h1
