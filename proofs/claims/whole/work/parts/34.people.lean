/-! lists; persons -/
theorem gi_ne {μ : Mem} {h k : Nat} {x : Int32} {b j : Nat} (hn : ¬ (b = h ∧ j = k)) : gi (si μ h k x) b j = gi μ b j := if_neg hn
theorem gi_eq (μ : Mem) (h k : Nat) (x : Int32) : gi (si μ h k x) h k = x := if_pos ⟨rfl, rfl⟩
theorem inb_nI {p n : Nat} (h : p < n) (hn : n < 2147483648) : inb (nI p) n := by
  have e := nI_toInt (n := p) (by omega)
  exact inb_of (by rw [e]; omega) (by rw [e]; omega)
theorem cl_nI {p : Nat} (h : p < 2147483648) : (nI p).toNatClampNeg = p := nI_clamp (by omega)
theorem ti_nI {p : Nat} (h : p < 2147483648) : (nI p).toInt = p := nI_toInt (by omega)
theorem nI_nlt0 {p : Nat} (h : p < 2147483648) : ¬ nI p < 0 := by
  rw [i32_lt, ti_nI h]; simp
theorem nI_8 (p b : Nat) : (8 : Int32) * nI p + nI b = nI (8 * p + b) := by
  rw [show (8 : Int32) = nI 8 from rfl, pk_mul, nI_add]
theorem nI_5 (p b : Nat) : (5 : Int32) * nI p + nI b = nI (5 * p + b) := by
  rw [show (5 : Int32) = nI 5 from rfl, pk_mul, nI_add]
theorem ix {x : Int32} {n : Nat} (hn : n < 2147483648) : (x < 0 ∨ nI n ≤ x) ∨ ∃ p, p < n ∧ x = nI p := by
  rcases pk_ix x (n := n) (by omega) with h | h | h
  · exact Or.inl (Or.inl h)
  · exact Or.inl (Or.inr h)
  · exact Or.inr h
theorem AL_size {μ : Mem} {l : Nat} (h : shp μ l = (14, 0)) : f_AL_size l μ = some (.inl (gi μ l 2), μ) := by
  unfold f_AL_size gI
  rw [if_pos h]
theorem AL_get {μ : Mem} {l n p : Nat} {P : Nat → Nat} (h : shp μ l = (14, 0)) (hL : LST l P n μ) (hn : n < 2147483648) (hp : p < n) : f_AL_get l (nI p) μ = some (.inr (P p), μ) := by
  obtain ⟨h1, h2, h3⟩ := hL
  have hq : ∃ cap, ¬ gr μ l 1 = 1 ∧ shp μ (gr μ l 1) = (2, cap) ∧ n ≤ cap ∧ cap ≤ 64 := by
    rcases h2 with h2 | ⟨cap, g1, g2, g3, g4, g5⟩
    · omega
    · exact ⟨cap, by omega, g1, g2, g4⟩
  obtain ⟨cap, g0, g1, g2, g3⟩ := hq
  have c1 : ¬ nI p < 0 := nI_nlt0 (by omega)
  have c2 : nI p < nI n := nI_lt hp (by omega)
  unfold f_AL_get gI
  rw [if_pos h, h1]
  dsimp only
  unfold f_OB_checkIndex f_PC_checkIndex
  rw [if_neg c1, if_pos c2, e_bI, e_bI]
  unfold cV
  rw [if_pos h]
  unfold f_AL_elementData gR
  rw [if_pos h]
  dsimp only
  unfold rI
  rw [if_pos ⟨g0, by rw [g1], by rw [g1]; exact inb_nI (by omega) (by omega)⟩, e_bR, cl_nI (by omega), h3 p hp]
theorem HpersonAt_t {μ : Mem} {n p : Nat} {P : Nat → Nat} (st : ST μ) (hL : LST 7 P n μ) (hn : n < 2147483648) (hp : p < n) (hs : shp μ (P p) = (9, 0)) : f_H_personAt 4 (nI p) μ = some (.inr (P p), μ) := by
  have c1 : ¬ nI p < 0 := nI_nlt0 (by omega)
  have c2 : ¬ nI n ≤ nI p := nI_ge hp (by omega)
  unfold f_H_personAt
  rw [if_neg c1, e_gR4_2 st, e_cV7 st, AL_size (st_h7 st), e_bI, hL.1, if_neg c2, e_gR4_2 st, e_cV7 st, AL_get (st_h7 st) hL hn hp, e_bR]
  unfold cC
  rw [if_pos (Or.inr hs)]
theorem HpersonAt_f {μ : Mem} {n : Nat} {x : Int32} {P : Nat → Nat} (st : ST μ) (hL : LST 7 P n μ) (h : x < 0 ∨ nI n ≤ x) : f_H_personAt 4 x μ = some (.inr 0, μ) := by
  unfold f_H_personAt
  by_cases c : x < 0
  · rw [if_pos c]
  · rw [if_neg c, e_gR4_2 st, e_cV7 st, AL_size (st_h7 st), e_bI, hL.1, if_pos (h.resolve_left c)]
theorem MisPerson_t {μ : Mem} {n p : Nat} (st : ST μ) (hL : gi μ 27 1 = nI n) (hn : n < 2147483648) (hp : p < n) : f_M_isPerson 27 (nI p) μ = some (.inl 1, μ) := by
  have c1 : ¬ nI p < 0 := nI_nlt0 (by omega)
  have c2 : ¬ nI n ≤ nI p := nI_ge hp (by omega)
  unfold f_M_isPerson
  rw [if_neg c1, e_gI27 st, hL, if_neg c2]
theorem MisPerson_f {μ : Mem} {n : Nat} {x : Int32} (st : ST μ) (hL : gi μ 27 1 = nI n) (h : x < 0 ∨ nI n ≤ x) : f_M_isPerson 27 x μ = some (.inl 0, μ) := by
  unfold f_M_isPerson
  by_cases c : x < 0
  · rw [if_pos c]
  · rw [if_neg c, e_gI27 st, hL, if_pos (h.resolve_left c)]
theorem HboatAt_t {μ : Mem} {n p : Nat} {P : Nat → Nat} (st : ST μ) (hL : LST 8 P n μ) (hn : n < 2147483648) (hp : p < n) (hs : shp μ (P p) = (3, 0)) : f_H_boatAt 4 (nI p) μ = some (.inr (P p), μ) := by
  have c1 : ¬ nI p < 0 := nI_nlt0 (by omega)
  have c2 : ¬ nI n ≤ nI p := nI_ge hp (by omega)
  unfold f_H_boatAt
  rw [if_neg c1, e_gR4_3 st, e_cV8 st, AL_size (st_h8 st), e_bI, hL.1, if_neg c2, e_gR4_3 st, e_cV8 st, AL_get (st_h8 st) hL hn hp, e_bR]
  unfold cC
  rw [if_pos (Or.inr hs)]
theorem HboatAt_f {μ : Mem} {n : Nat} {x : Int32} {P : Nat → Nat} (st : ST μ) (hL : LST 8 P n μ) (h : x < 0 ∨ nI n ≤ x) : f_H_boatAt 4 x μ = some (.inr 0, μ) := by
  unfold f_H_boatAt
  by_cases c : x < 0
  · rw [if_pos c]
  · rw [if_neg c, e_gR4_3 st, e_cV8 st, AL_size (st_h8 st), e_bI, hL.1, if_pos (h.resolve_left c)]
theorem MisBoat_t {μ : Mem} {n p : Nat} (st : ST μ) (hL : gi μ 27 2 = nI n) (hn : n < 2147483648) (hp : p < n) : f_M_isBoat 27 (nI p) μ = some (.inl 1, μ) := by
  have c1 : ¬ nI p < 0 := nI_nlt0 (by omega)
  have c2 : ¬ nI n ≤ nI p := nI_ge hp (by omega)
  unfold f_M_isBoat
  rw [if_neg c1, e_gI27 st, hL, if_neg c2]
theorem MisBoat_f {μ : Mem} {n : Nat} {x : Int32} (st : ST μ) (hL : gi μ 27 2 = nI n) (h : x < 0 ∨ nI n ≤ x) : f_M_isBoat 27 x μ = some (.inl 0, μ) := by
  unfold f_M_isBoat
  by_cases c : x < 0
  · rw [if_pos c]
  · rw [if_neg c, e_gI27 st, hL, if_pos (h.resolve_left c)]
theorem HcallAt_t {μ : Mem} {n p : Nat} {P : Nat → Nat} (st : ST μ) (hL : LST 9 P n μ) (hn : n < 2147483648) (hp : p < n) (hs : shp μ (P p) = (4, 0)) : f_H_callAt 4 (nI p) μ = some (.inr (P p), μ) := by
  have c1 : ¬ nI p < 0 := nI_nlt0 (by omega)
  have c2 : ¬ nI n ≤ nI p := nI_ge hp (by omega)
  unfold f_H_callAt
  rw [if_neg c1, e_gR4_4 st, e_cV9 st, AL_size (st_h9 st), e_bI, hL.1, if_neg c2, e_gR4_4 st, e_cV9 st, AL_get (st_h9 st) hL hn hp, e_bR]
  unfold cC
  rw [if_pos (Or.inr hs)]
theorem HcallAt_f {μ : Mem} {n : Nat} {x : Int32} {P : Nat → Nat} (st : ST μ) (hL : LST 9 P n μ) (h : x < 0 ∨ nI n ≤ x) : f_H_callAt 4 x μ = some (.inr 0, μ) := by
  unfold f_H_callAt
  by_cases c : x < 0
  · rw [if_pos c]
  · rw [if_neg c, e_gR4_4 st, e_cV9 st, AL_size (st_h9 st), e_bI, hL.1, if_pos (h.resolve_left c)]
theorem MisCall_t {μ : Mem} {n p : Nat} (st : ST μ) (hL : gi μ 27 3 = nI n) (hn : n < 2147483648) (hp : p < n) : f_M_isCall 27 (nI p) μ = some (.inl 1, μ) := by
  have c1 : ¬ nI p < 0 := nI_nlt0 (by omega)
  have c2 : ¬ nI n ≤ nI p := nI_ge hp (by omega)
  unfold f_M_isCall
  rw [if_neg c1, e_gI27 st, hL, if_neg c2]
theorem MisCall_f {μ : Mem} {n : Nat} {x : Int32} (st : ST μ) (hL : gi μ 27 3 = nI n) (h : x < 0 ∨ nI n ≤ x) : f_M_isCall 27 x μ = some (.inl 0, μ) := by
  unfold f_M_isCall
  by_cases c : x < 0
  · rw [if_pos c]
  · rw [if_neg c, e_gI27 st, hL, if_pos (h.resolve_left c)]
/-- writes to a person's cells and rows -/
abbrev Sper (μ : Mem) (h k : Nat) : Prop := (59 ≤ h ∧ (shp μ h = (9, 0) ∨ shp μ h = (0, 8))) ∨ (30 ≤ h ∧ h ≤ 35)
theorem Inv.person {μ μ1 : Mem} (a : Fr (Sper μ) μ μ1) (i : Inv μ) (hP : ∃ P, I_ppl P μ1) : Inv μ1 := by
  have no : ∀ h k : Nat, h < 59 → ¬ (30 ≤ h ∧ h ≤ 35) → ¬ Sper μ h k := fun h k h1 h2 q => by
    rcases q with q | q
    · omega
    · exact h2 q
  have no2 : ∀ h k : Nat, 59 ≤ h → ¬ (shp μ h = (9, 0) ∨ shp μ h = (0, 8)) → ¬ Sper μ h k := fun h k h1 h2 q => by
    rcases q with q | q
    · exact h2 q.2
    · omega
  obtain ⟨i1, i2, i3, i4, i5, i6, i7, i8, ⟨B, i9⟩, ⟨C, i10⟩, ⟨U, i11⟩, i12⟩ := i
  refine ⟨i1.fr a, i2.fr a (no _ _ (by omega) (by omega)) (no _ _ (by omega) (by omega)) (no _ _ (by omega) (by omega)) (no _ _ (by omega) (by omega)) (no _ _ (by omega) (by omega)) (no _ _ (by omega) (by omega)), i3.fr a (fun j => no _ _ (by omega) (by omega)) (fun j => no _ _ (by omega) (by omega)), i4.fr a (fun j => no _ _ (by omega) (by omega)) (fun j => no _ _ (by omega) (by omega)), i5.fr a (fun j => no _ _ (by omega) (by omega)) (fun j => no _ _ (by omega) (by omega)), i6.fr a (fun j => no _ _ (by omega) (by omega)) (fun j => no _ _ (by omega) (by omega)) (no _ _ (by omega) (by omega)), i7.fr a (fun j => no _ _ (by omega) (by omega)) (fun j => no _ _ (by omega) (by omega)), hP,
    ⟨B, i9.fr a (no _ _ (by omega) (by omega)) (no _ _ (by omega) (by omega)) (fun h j g1 g2 => no _ _ (by omega) (by omega)) (fun h j g1 g2 => no2 _ _ g1 (by rcases g2 with g | g <;> rw [g] <;> decide))⟩, ⟨C, i10.fr a (no _ _ (by omega) (by omega)) (no _ _ (by omega) (by omega)) (fun h j g1 g2 => no _ _ (by omega) (by omega)) (fun h j g1 g2 => no2 _ _ g1 (by rw [g2]; decide))⟩, ⟨U, i11.fr a (no _ _ (by omega) (by omega)) (no _ _ (by omega) (by omega)) (fun h j g1 g2 => no _ _ (by omega) (by omega)) (fun h j g1 g2 => no2 _ _ g1 (by rw [g2]; decide))⟩, i12.fr a⟩
theorem PER.cg {μ μ1 : Mem} {P : Nat → Nat} {p : Nat} (s : str μ μ1) (e0 : ∀ j, gi μ1 (P p) j = gi μ (P p) j) (e1 : ∀ j, gi μ1 (P p + 1) j = gi μ (P p + 1) j) (e2 : ∀ j, gi μ1 (P p + 2) j = gi μ (P p + 2) j) (r0 : gi μ1 30 p = gi μ 30 p) (r1 : gi μ1 31 p = gi μ 31 p) (r2 : gi μ1 32 p = gi μ 32 p) (r3 : gi μ1 33 p = gi μ 33 p) (r4 : ∀ b, b < 8 → gi μ1 34 (8 * p + b) = gi μ 34 (8 * p + b)) (r5 : ∀ b, b < 8 → gi μ1 35 (8 * p + b) = gi μ 35 (8 * p + b)) (i : PER P p μ) : PER P p μ1 := by
  unfold PER at i ⊢
  obtain ⟨i0, i1, i2, i3, i4, i5, i6, i7, i8, i9, i10, j1, j2, j3, j4, j5⟩ := i
  rw [s.2.1, s.2.1, s.2.1, s.2.2, s.2.2, e0, e0, e0, e0, r0, r1, r2, r3]
  exact ⟨i0, i1, i2, i3, i4, i5, i6, i7, i8, i9, fun b hb => by rw [e1, e2, r4 b hb, r5 b hb]; exact i10 b hb, j1, j2, j3, j4, fun b hb => by rw [r4 b hb, r5 b hb]; exact j5 b hb⟩
theorem gap3 {P : Nat → Nat} {n : Nat} (hg : ∀ p q, p < q → q < n → P p + 3 ≤ P q) {p q : Nat} (hp : p < n) (hq : q < n) (h : q ≠ p) : P p + 3 ≤ P q ∨ P q + 3 ≤ P p := by
  rcases Nat.lt_or_gt_of_ne h with h | h
  · exact Or.inr (hg q p h hp)
  · exact Or.inl (hg p q h hq)
theorem I_ppl.papers {μ : Mem} {P : Nat → Nat} {n p : Nat} {x : Int32} (hn : n ≤ 40) (h1 : gi μ 27 1 = nI n) (h2 : LST 7 P n μ) (h3 : ∀ p, p < n → PER P p μ) (h4 : ∀ p q, p < q → q < n → P p + 3 ≤ P q) (h5 : ∀ i, 8 * n ≤ i → i < 320 → gi μ 34 i = 0 ∧ gi μ 35 i = 0) (h6 : ∀ p, n ≤ p → p < 40 → gi μ 33 p = 0) (hp : p < n) (hx : rng x 0 200) : Fr (Sper μ) μ (si (si μ (P p) 4 x) 32 p x) ∧ I_ppl P (si (si μ (P p) 4 x) 32 p x) := by
  have pp := h3 p hp
  have a0 := pp.1
  have fr : Fr (Sper μ) μ (si (si μ (P p) 4 x) 32 p x) := (Fr.si (Or.inl ⟨a0, Or.inl pp.2.1⟩)).tr (Fr.si (Or.inr (by omega)))
  refine ⟨fr, n, hn, ?_, ?_, ?_, h4, ?_, ?_⟩
  · rw [gi_si, if_neg (by omega), gi_si, if_neg (by omega)]; exact h1
  · exact h2.fr fr (fun q => by rcases q with q | q <;> omega)
  · intro q hq
    have aq := (h3 q hq).1
    by_cases e : q = p
    · subst e
      unfold PER at pp ⊢
      obtain ⟨i0, i1, i2, i3, i4, i5, i6, i7, i8, i9, i10, j1, j2, j3, j4, j5⟩ := pp
      refine ⟨i0, i1, i2, i3, i4, i5, ?_, ?_, ?_, ?_, ?_, ?_, ?_, ?_, ?_, ?_⟩
      · rw [gi_ne (by omega), gi_ne (by omega), gi_ne (by omega), gi_ne (by omega)]; exact i6
      · rw [gi_ne (by omega), gi_ne (by omega), gi_ne (by omega), gi_ne (by omega)]; exact i7
      · rw [gi_ne (by omega), gi_eq, gi_eq]
      · rw [gi_ne (by omega), gi_ne (by omega), gi_ne (by omega), gi_ne (by omega)]; exact i9
      · intro b hb
        rw [gi_ne (by omega), gi_ne (by omega), gi_ne (by omega), gi_ne (by omega), gi_ne (by omega), gi_ne (by omega), gi_ne (by omega), gi_ne (by omega)]
        exact i10 b hb
      · rw [gi_ne (by omega), gi_ne (by omega)]; exact j1
      · rw [gi_ne (by omega), gi_ne (by omega)]; exact j2
      · rw [gi_eq]; exact hx
      · rw [gi_ne (by omega), gi_ne (by omega)]; exact j4
      · intro b hb
        rw [gi_ne (by omega), gi_ne (by omega), gi_ne (by omega), gi_ne (by omega)]
        exact j5 b hb
    · have g := gap3 h4 hp hq e
      refine (h3 q hq).cg fr.1 ?_ ?_ ?_ ?_ ?_ ?_ ?_ ?_ ?_
      all_goals (intros; rw [gi_ne (by omega), gi_ne (by omega)])
  · intro i g1 g2
    rw [gi_ne (by omega), gi_ne (by omega), gi_ne (by omega), gi_ne (by omega)]
    exact h5 i g1 g2
  · intro q g1 g2
    rw [gi_ne (by omega), gi_ne (by omega)]
    exact h6 q g1 g2
theorem I_ppl.rest {μ : Mem} {P : Nat → Nat} {n p : Nat} {x : Int32} (hn : n ≤ 40) (h1 : gi μ 27 1 = nI n) (h2 : LST 7 P n μ) (h3 : ∀ p, p < n → PER P p μ) (h4 : ∀ p q, p < q → q < n → P p + 3 ≤ P q) (h5 : ∀ i, 8 * n ≤ i → i < 320 → gi μ 34 i = 0 ∧ gi μ 35 i = 0) (h6 : ∀ p, n ≤ p → p < 40 → gi μ 33 p = 0) (hp : p < n) (hx : rng x 0 200000) : Fr (Sper μ) μ (si (si μ (P p) 5 x) 33 p x) ∧ I_ppl P (si (si μ (P p) 5 x) 33 p x) := by
  have pp := h3 p hp
  have a0 := pp.1
  have fr : Fr (Sper μ) μ (si (si μ (P p) 5 x) 33 p x) := (Fr.si (Or.inl ⟨a0, Or.inl pp.2.1⟩)).tr (Fr.si (Or.inr (by omega)))
  refine ⟨fr, n, hn, ?_, ?_, ?_, h4, ?_, ?_⟩
  · rw [gi_si, if_neg (by omega), gi_si, if_neg (by omega)]; exact h1
  · exact h2.fr fr (fun q => by rcases q with q | q <;> omega)
  · intro q hq
    have aq := (h3 q hq).1
    by_cases e : q = p
    · subst e
      unfold PER at pp ⊢
      obtain ⟨i0, i1, i2, i3, i4, i5, i6, i7, i8, i9, i10, j1, j2, j3, j4, j5⟩ := pp
      refine ⟨i0, i1, i2, i3, i4, i5, ?_, ?_, ?_, ?_, ?_, ?_, ?_, ?_, ?_, ?_⟩
      · rw [gi_ne (by omega), gi_ne (by omega), gi_ne (by omega), gi_ne (by omega)]; exact i6
      · rw [gi_ne (by omega), gi_ne (by omega), gi_ne (by omega), gi_ne (by omega)]; exact i7
      · rw [gi_ne (by omega), gi_ne (by omega), gi_ne (by omega), gi_ne (by omega)]; exact i8
      · rw [gi_ne (by omega), gi_eq, gi_eq]
      · intro b hb
        rw [gi_ne (by omega), gi_ne (by omega), gi_ne (by omega), gi_ne (by omega), gi_ne (by omega), gi_ne (by omega), gi_ne (by omega), gi_ne (by omega)]
        exact i10 b hb
      · rw [gi_ne (by omega), gi_ne (by omega)]; exact j1
      · rw [gi_ne (by omega), gi_ne (by omega)]; exact j2
      · rw [gi_ne (by omega), gi_ne (by omega)]; exact j3
      · rw [gi_eq]; exact hx
      · intro b hb
        rw [gi_ne (by omega), gi_ne (by omega), gi_ne (by omega), gi_ne (by omega)]
        exact j5 b hb
    · have g := gap3 h4 hp hq e
      refine (h3 q hq).cg fr.1 ?_ ?_ ?_ ?_ ?_ ?_ ?_ ?_ ?_
      all_goals (intros; rw [gi_ne (by omega), gi_ne (by omega)])
  · intro i g1 g2
    rw [gi_ne (by omega), gi_ne (by omega), gi_ne (by omega), gi_ne (by omega)]
    exact h5 i g1 g2
  · intro q g1 g2
    rw [gi_ne (by omega), gi_ne (by omega)]
    exact h6 q g1 g2
theorem gI_at {μ : Mem} {ci h : Nat} (hs : shp μ h = (ci + 3, 0)) (k : Nat) (K : Int32 → Option (LV × Mem)) : gI ci h k μ K = K (gi μ h k) := if_pos hs
theorem gR_at {μ : Mem} {ci h : Nat} (hs : shp μ h = (ci + 3, 0)) (k : Nat) (K : Nat → Option (LV × Mem)) : gR ci h k μ K = K (gr μ h k) := if_pos hs
theorem pI_at {μ : Mem} {ci h : Nat} (hs : shp μ h = (ci + 3, 0)) (k : Nat) (x : Int32) (K : Mem → Option (LV × Mem)) : pI ci h k x μ K = K (si μ h k x) := if_pos hs
theorem cV_at {μ : Mem} {ci h : Nat} (hs : shp μ h = (ci + 3, 0)) (X : Option (LV × Mem)) : cV ci h μ X = X := if_pos hs
theorem aI_at {μ : Mem} {h n : Nat} (hs : shp μ h = (0, n)) {i : Int32} (hi : inb i n) (K : Int32 → Option (LV × Mem)) : aI h i μ K = K (gi μ h i.toNatClampNeg) := by unfold aI; rw [hs]; exact if_pos ⟨rfl, hi⟩
theorem aS_at {μ : Mem} {h n : Nat} (hs : shp μ h = (0, n)) {i : Int32} (hi : inb i n) (x : Int32) (K : Mem → Option (LV × Mem)) : aS h i x μ K = K (si μ h i.toNatClampNeg x) := by unfold aS; rw [hs]; exact if_pos ⟨rfl, hi⟩
theorem op_papers {μ : Mem} (i : Inv μ) (x d : Int32) : Opx (f_H_papers 4 x d) (f_M_papers 27 x d) μ := by
  have st := i.1
  have stA : ∀ h k x, ST (si μ h k x) := fun _ _ _ => st
  have stB : ∀ h k x h' k' x', ST (si (si μ h k x) h' k' x') := fun _ _ _ _ _ _ => st
  obtain ⟨P, n, hn, h1, h2, h3, h4, h5, h6⟩ := i.2.2.2.2.2.2.2.1
  rcases ix (x := x) (n := n) (by omega) with hx | ⟨p, hp, rfl⟩
  · have m1 : f_M_isPerson 27 x (si μ 26 1 (gi μ 26 1 + 1)) = some (.inl 0, si μ 26 1 (gi μ 26 1 + 1)) := MisPerson_f (stA _ _ _) h1 hx
    exact Opx.ref (c := -1) i 1 (by decide) (by simp only [f_H_papers, rf_1, HpersonAt_f st h2 hx, e_nm, e_bI, e_bR, e_bV, e_gI4, e_pI4, e_cV4, e_gR4_0, e_gR4_1, e_gR4_2, e_gR4_3, e_gR4_4, e_gR4_5, e_gR4_6, e_gR4_7, e_gR4_8, e_gR4_9, e_gR4_10, e_gR4_11, e_aI5, e_aS5, e_aI6, e_aS6, e_gI7, e_pI7, e_cV7, e_gR7, e_gI8, e_pI8, e_cV8, e_gR8, e_gI9, e_pI9, e_cV9, e_gR9, e_gI10, e_pI10, e_cV10, e_gR10, e_gI11, e_pI11, e_cV11, e_gR11_0, e_aI12, e_aS12, e_gI13, e_pI13, e_cV13, e_gR13_0, e_aI14, e_aS14, e_gI15, e_pI15, e_cV15, e_gI16, e_pI16, e_cV16, e_gR16_0, e_gR16_3, e_gR16_4, e_gR16_5, e_gR16_6, e_aI17, e_aS17, e_aI18, e_aS18, e_aI19, e_aS19, e_zI20, e_zS20, e_aI21, e_aS21, e_gI22, e_pI22, e_cV22, e_gR22_0, e_gR22_1, e_gR22_3, e_aI23, e_aS23, e_aI24, e_aS24, e_aI25, e_aS25, e_aI26, e_aS26, e_gI27, e_pI27, e_cV27, e_gR27_7, e_gR27_8, e_gR27_9, e_gR27_10, e_gR27_11, e_gR27_12, e_gR27_13, e_gR27_14, e_gR27_15, e_gR27_16, e_gR27_17, e_gR27_18, e_gR27_19, e_gR27_20, e_gR27_21, e_gR27_22, e_gR27_23, e_gR27_24, e_gR27_25, e_gR27_26, e_gR27_27, e_gR27_28, e_gR27_29, e_gR27_30, e_gR27_31, e_gR27_32, e_gR27_33, e_gR27_34, e_gR27_35, e_gR27_36, e_gR27_37, e_aI28, e_aS28, e_aI29, e_aS29, e_aI30, e_aS30, e_aI31, e_aS31, e_aI32, e_aS32, e_aI33, e_aS33, e_aI34, e_aS34, e_aI35, e_aS35, e_aI36, e_aS36, e_aI37, e_aS37, e_aI38, e_aS38, e_aI39, e_aS39, e_aI40, e_aS40, e_aI41, e_aS41, e_aI42, e_aS42, e_aI43, e_aS43, e_aI44, e_aS44, e_aI45, e_aS45, e_aI46, e_aS46, e_aI47, e_aS47, e_aI48, e_aS48, e_aI49, e_aS49, e_aI50, e_aS50, e_aI51, e_aS51, e_aI52, e_aS52, e_aI53, e_aS53, e_aI54, e_aS54, e_aI55, e_aS55, e_aI56, e_aS56, e_aI57, e_aS57, e_aI58, e_aS58, st, stA, stB, inb, and_self, if_true, if_false, i32_00, i32_10, i32_m40, i32_m60]) (by simp only [f_M_papers, no_1, m1, e_nm, e_bI, e_bR, e_bV, e_gI4, e_pI4, e_cV4, e_gR4_0, e_gR4_1, e_gR4_2, e_gR4_3, e_gR4_4, e_gR4_5, e_gR4_6, e_gR4_7, e_gR4_8, e_gR4_9, e_gR4_10, e_gR4_11, e_aI5, e_aS5, e_aI6, e_aS6, e_gI7, e_pI7, e_cV7, e_gR7, e_gI8, e_pI8, e_cV8, e_gR8, e_gI9, e_pI9, e_cV9, e_gR9, e_gI10, e_pI10, e_cV10, e_gR10, e_gI11, e_pI11, e_cV11, e_gR11_0, e_aI12, e_aS12, e_gI13, e_pI13, e_cV13, e_gR13_0, e_aI14, e_aS14, e_gI15, e_pI15, e_cV15, e_gI16, e_pI16, e_cV16, e_gR16_0, e_gR16_3, e_gR16_4, e_gR16_5, e_gR16_6, e_aI17, e_aS17, e_aI18, e_aS18, e_aI19, e_aS19, e_zI20, e_zS20, e_aI21, e_aS21, e_gI22, e_pI22, e_cV22, e_gR22_0, e_gR22_1, e_gR22_3, e_aI23, e_aS23, e_aI24, e_aS24, e_aI25, e_aS25, e_aI26, e_aS26, e_gI27, e_pI27, e_cV27, e_gR27_7, e_gR27_8, e_gR27_9, e_gR27_10, e_gR27_11, e_gR27_12, e_gR27_13, e_gR27_14, e_gR27_15, e_gR27_16, e_gR27_17, e_gR27_18, e_gR27_19, e_gR27_20, e_gR27_21, e_gR27_22, e_gR27_23, e_gR27_24, e_gR27_25, e_gR27_26, e_gR27_27, e_gR27_28, e_gR27_29, e_gR27_30, e_gR27_31, e_gR27_32, e_gR27_33, e_gR27_34, e_gR27_35, e_gR27_36, e_gR27_37, e_aI28, e_aS28, e_aI29, e_aS29, e_aI30, e_aS30, e_aI31, e_aS31, e_aI32, e_aS32, e_aI33, e_aS33, e_aI34, e_aS34, e_aI35, e_aS35, e_aI36, e_aS36, e_aI37, e_aS37, e_aI38, e_aS38, e_aI39, e_aS39, e_aI40, e_aS40, e_aI41, e_aS41, e_aI42, e_aS42, e_aI43, e_aS43, e_aI44, e_aS44, e_aI45, e_aS45, e_aI46, e_aS46, e_aI47, e_aS47, e_aI48, e_aS48, e_aI49, e_aS49, e_aI50, e_aS50, e_aI51, e_aS51, e_aI52, e_aS52, e_aI53, e_aS53, e_aI54, e_aS54, e_aI55, e_aS55, e_aI56, e_aS56, e_aI57, e_aS57, e_aI58, e_aS58, st, stA, stB, inb, and_self, if_true, if_false, i32_00, i32_10, i32_m40, i32_m60])
  · have pp := h3 p hp
    have hP : ¬ P p = 0 := by have := pp.1; omega
    have hH := HpersonAt_t st h2 (by omega) hp pp.2.1
    have hc := cl_nI (p := p) (by omega)
    have hb : inb (nI p) 40 := inb_nI (by omega) (by omega)
    have hp40 : p < 40 := by omega
    have m0 : ∀ h k v, (h = 27 → k ≠ 1) → f_M_isPerson 27 (nI p) (si μ h k v) = some (.inl 1, si μ h k v) := fun h k v g => MisPerson_t (stA _ _ _) (by rw [gi_si, if_neg (fun q => g q.1.symm q.2.symm)]; exact h1) (by omega) hp
    have mA := m0 26 4 (gi μ 26 4 + 1) (by omega)
    have mB := m0 26 6 (gi μ 26 6 + 1) (by omega)
    have mC := m0 (P p) 4 d (by have := pp.1; omega)
    by_cases d0 : 0 ≤ d
    · by_cases d1 : d ≤ 200
      · have hd : rng d 0 200 := ⟨by simpa using (i32_le _ _).mp d0, by simpa using (i32_le _ _).mp d1⟩
        obtain ⟨fr, ip⟩ := I_ppl.papers hn h1 h2 h3 h4 h5 h6 hp hd
        refine ⟨gi μ 32 p, si μ (P p) 4 d, si (si μ (P p) 4 d) 32 p d, ?_, st, ?_, i.person fr ⟨P, ip⟩⟩
        · simp only [f_H_papers, hH, hP, Hout_0 _ d0 d1, gI_at pp.2.1, pI_at pp.2.1, pp.2.2.2.2.2.2.2.2.1, e_nm, e_bI, e_bR, e_bV, e_gI4, e_pI4, e_cV4, e_gR4_0, e_gR4_1, e_gR4_2, e_gR4_3, e_gR4_4, e_gR4_5, e_gR4_6, e_gR4_7, e_gR4_8, e_gR4_9, e_gR4_10, e_gR4_11, e_aI5, e_aS5, e_aI6, e_aS6, e_gI7, e_pI7, e_cV7, e_gR7, e_gI8, e_pI8, e_cV8, e_gR8, e_gI9, e_pI9, e_cV9, e_gR9, e_gI10, e_pI10, e_cV10, e_gR10, e_gI11, e_pI11, e_cV11, e_gR11_0, e_aI12, e_aS12, e_gI13, e_pI13, e_cV13, e_gR13_0, e_aI14, e_aS14, e_gI15, e_pI15, e_cV15, e_gI16, e_pI16, e_cV16, e_gR16_0, e_gR16_3, e_gR16_4, e_gR16_5, e_gR16_6, e_aI17, e_aS17, e_aI18, e_aS18, e_aI19, e_aS19, e_zI20, e_zS20, e_aI21, e_aS21, e_gI22, e_pI22, e_cV22, e_gR22_0, e_gR22_1, e_gR22_3, e_aI23, e_aS23, e_aI24, e_aS24, e_aI25, e_aS25, e_aI26, e_aS26, e_gI27, e_pI27, e_cV27, e_gR27_7, e_gR27_8, e_gR27_9, e_gR27_10, e_gR27_11, e_gR27_12, e_gR27_13, e_gR27_14, e_gR27_15, e_gR27_16, e_gR27_17, e_gR27_18, e_gR27_19, e_gR27_20, e_gR27_21, e_gR27_22, e_gR27_23, e_gR27_24, e_gR27_25, e_gR27_26, e_gR27_27, e_gR27_28, e_gR27_29, e_gR27_30, e_gR27_31, e_gR27_32, e_gR27_33, e_gR27_34, e_gR27_35, e_gR27_36, e_gR27_37, e_aI28, e_aS28, e_aI29, e_aS29, e_aI30, e_aS30, e_aI31, e_aS31, e_aI32, e_aS32, e_aI33, e_aS33, e_aI34, e_aS34, e_aI35, e_aS35, e_aI36, e_aS36, e_aI37, e_aS37, e_aI38, e_aS38, e_aI39, e_aS39, e_aI40, e_aS40, e_aI41, e_aS41, e_aI42, e_aS42, e_aI43, e_aS43, e_aI44, e_aS44, e_aI45, e_aS45, e_aI46, e_aS46, e_aI47, e_aS47, e_aI48, e_aS48, e_aI49, e_aS49, e_aI50, e_aS50, e_aI51, e_aS51, e_aI52, e_aS52, e_aI53, e_aS53, e_aI54, e_aS54, e_aI55, e_aS55, e_aI56, e_aS56, e_aI57, e_aS57, e_aI58, e_aS58, st, stA, stB, inb, and_self, if_true, if_false, i32_00, i32_10, i32_m40, i32_m60]
        · simp only [f_M_papers, mC, d0, d1, hb.1, hp40, hc, gi_si, e_nm, e_bI, e_bR, e_bV, e_gI4, e_pI4, e_cV4, e_gR4_0, e_gR4_1, e_gR4_2, e_gR4_3, e_gR4_4, e_gR4_5, e_gR4_6, e_gR4_7, e_gR4_8, e_gR4_9, e_gR4_10, e_gR4_11, e_aI5, e_aS5, e_aI6, e_aS6, e_gI7, e_pI7, e_cV7, e_gR7, e_gI8, e_pI8, e_cV8, e_gR8, e_gI9, e_pI9, e_cV9, e_gR9, e_gI10, e_pI10, e_cV10, e_gR10, e_gI11, e_pI11, e_cV11, e_gR11_0, e_aI12, e_aS12, e_gI13, e_pI13, e_cV13, e_gR13_0, e_aI14, e_aS14, e_gI15, e_pI15, e_cV15, e_gI16, e_pI16, e_cV16, e_gR16_0, e_gR16_3, e_gR16_4, e_gR16_5, e_gR16_6, e_aI17, e_aS17, e_aI18, e_aS18, e_aI19, e_aS19, e_zI20, e_zS20, e_aI21, e_aS21, e_gI22, e_pI22, e_cV22, e_gR22_0, e_gR22_1, e_gR22_3, e_aI23, e_aS23, e_aI24, e_aS24, e_aI25, e_aS25, e_aI26, e_aS26, e_gI27, e_pI27, e_cV27, e_gR27_7, e_gR27_8, e_gR27_9, e_gR27_10, e_gR27_11, e_gR27_12, e_gR27_13, e_gR27_14, e_gR27_15, e_gR27_16, e_gR27_17, e_gR27_18, e_gR27_19, e_gR27_20, e_gR27_21, e_gR27_22, e_gR27_23, e_gR27_24, e_gR27_25, e_gR27_26, e_gR27_27, e_gR27_28, e_gR27_29, e_gR27_30, e_gR27_31, e_gR27_32, e_gR27_33, e_gR27_34, e_gR27_35, e_gR27_36, e_gR27_37, e_aI28, e_aS28, e_aI29, e_aS29, e_aI30, e_aS30, e_aI31, e_aS31, e_aI32, e_aS32, e_aI33, e_aS33, e_aI34, e_aS34, e_aI35, e_aS35, e_aI36, e_aS36, e_aI37, e_aS37, e_aI38, e_aS38, e_aI39, e_aS39, e_aI40, e_aS40, e_aI41, e_aS41, e_aI42, e_aS42, e_aI43, e_aS43, e_aI44, e_aS44, e_aI45, e_aS45, e_aI46, e_aS46, e_aI47, e_aS47, e_aI48, e_aS48, e_aI49, e_aS49, e_aI50, e_aS50, e_aI51, e_aS51, e_aI52, e_aS52, e_aI53, e_aS53, e_aI54, e_aS54, e_aI55, e_aS55, e_aI56, e_aS56, e_aI57, e_aS57, e_aI58, e_aS58, st, stA, stB, inb, and_self, if_true, if_false, i32_00, i32_10, i32_m40, i32_m60]
          have := pp.1
          rw [if_neg (by omega)]
      · exact Opx.ref (c := -6) i 6 (by decide) (by simp only [f_H_papers, rf_6, hH, hP, Hout_6 _ d0 d1, e_nm, e_bI, e_bR, e_bV, e_gI4, e_pI4, e_cV4, e_gR4_0, e_gR4_1, e_gR4_2, e_gR4_3, e_gR4_4, e_gR4_5, e_gR4_6, e_gR4_7, e_gR4_8, e_gR4_9, e_gR4_10, e_gR4_11, e_aI5, e_aS5, e_aI6, e_aS6, e_gI7, e_pI7, e_cV7, e_gR7, e_gI8, e_pI8, e_cV8, e_gR8, e_gI9, e_pI9, e_cV9, e_gR9, e_gI10, e_pI10, e_cV10, e_gR10, e_gI11, e_pI11, e_cV11, e_gR11_0, e_aI12, e_aS12, e_gI13, e_pI13, e_cV13, e_gR13_0, e_aI14, e_aS14, e_gI15, e_pI15, e_cV15, e_gI16, e_pI16, e_cV16, e_gR16_0, e_gR16_3, e_gR16_4, e_gR16_5, e_gR16_6, e_aI17, e_aS17, e_aI18, e_aS18, e_aI19, e_aS19, e_zI20, e_zS20, e_aI21, e_aS21, e_gI22, e_pI22, e_cV22, e_gR22_0, e_gR22_1, e_gR22_3, e_aI23, e_aS23, e_aI24, e_aS24, e_aI25, e_aS25, e_aI26, e_aS26, e_gI27, e_pI27, e_cV27, e_gR27_7, e_gR27_8, e_gR27_9, e_gR27_10, e_gR27_11, e_gR27_12, e_gR27_13, e_gR27_14, e_gR27_15, e_gR27_16, e_gR27_17, e_gR27_18, e_gR27_19, e_gR27_20, e_gR27_21, e_gR27_22, e_gR27_23, e_gR27_24, e_gR27_25, e_gR27_26, e_gR27_27, e_gR27_28, e_gR27_29, e_gR27_30, e_gR27_31, e_gR27_32, e_gR27_33, e_gR27_34, e_gR27_35, e_gR27_36, e_gR27_37, e_aI28, e_aS28, e_aI29, e_aS29, e_aI30, e_aS30, e_aI31, e_aS31, e_aI32, e_aS32, e_aI33, e_aS33, e_aI34, e_aS34, e_aI35, e_aS35, e_aI36, e_aS36, e_aI37, e_aS37, e_aI38, e_aS38, e_aI39, e_aS39, e_aI40, e_aS40, e_aI41, e_aS41, e_aI42, e_aS42, e_aI43, e_aS43, e_aI44, e_aS44, e_aI45, e_aS45, e_aI46, e_aS46, e_aI47, e_aS47, e_aI48, e_aS48, e_aI49, e_aS49, e_aI50, e_aS50, e_aI51, e_aS51, e_aI52, e_aS52, e_aI53, e_aS53, e_aI54, e_aS54, e_aI55, e_aS55, e_aI56, e_aS56, e_aI57, e_aS57, e_aI58, e_aS58, st, stA, stB, inb, and_self, if_true, if_false, i32_00, i32_10, i32_m40, i32_m60]) (by simp only [f_M_papers, no_6, mB, d0, d1, e_nm, e_bI, e_bR, e_bV, e_gI4, e_pI4, e_cV4, e_gR4_0, e_gR4_1, e_gR4_2, e_gR4_3, e_gR4_4, e_gR4_5, e_gR4_6, e_gR4_7, e_gR4_8, e_gR4_9, e_gR4_10, e_gR4_11, e_aI5, e_aS5, e_aI6, e_aS6, e_gI7, e_pI7, e_cV7, e_gR7, e_gI8, e_pI8, e_cV8, e_gR8, e_gI9, e_pI9, e_cV9, e_gR9, e_gI10, e_pI10, e_cV10, e_gR10, e_gI11, e_pI11, e_cV11, e_gR11_0, e_aI12, e_aS12, e_gI13, e_pI13, e_cV13, e_gR13_0, e_aI14, e_aS14, e_gI15, e_pI15, e_cV15, e_gI16, e_pI16, e_cV16, e_gR16_0, e_gR16_3, e_gR16_4, e_gR16_5, e_gR16_6, e_aI17, e_aS17, e_aI18, e_aS18, e_aI19, e_aS19, e_zI20, e_zS20, e_aI21, e_aS21, e_gI22, e_pI22, e_cV22, e_gR22_0, e_gR22_1, e_gR22_3, e_aI23, e_aS23, e_aI24, e_aS24, e_aI25, e_aS25, e_aI26, e_aS26, e_gI27, e_pI27, e_cV27, e_gR27_7, e_gR27_8, e_gR27_9, e_gR27_10, e_gR27_11, e_gR27_12, e_gR27_13, e_gR27_14, e_gR27_15, e_gR27_16, e_gR27_17, e_gR27_18, e_gR27_19, e_gR27_20, e_gR27_21, e_gR27_22, e_gR27_23, e_gR27_24, e_gR27_25, e_gR27_26, e_gR27_27, e_gR27_28, e_gR27_29, e_gR27_30, e_gR27_31, e_gR27_32, e_gR27_33, e_gR27_34, e_gR27_35, e_gR27_36, e_gR27_37, e_aI28, e_aS28, e_aI29, e_aS29, e_aI30, e_aS30, e_aI31, e_aS31, e_aI32, e_aS32, e_aI33, e_aS33, e_aI34, e_aS34, e_aI35, e_aS35, e_aI36, e_aS36, e_aI37, e_aS37, e_aI38, e_aS38, e_aI39, e_aS39, e_aI40, e_aS40, e_aI41, e_aS41, e_aI42, e_aS42, e_aI43, e_aS43, e_aI44, e_aS44, e_aI45, e_aS45, e_aI46, e_aS46, e_aI47, e_aS47, e_aI48, e_aS48, e_aI49, e_aS49, e_aI50, e_aS50, e_aI51, e_aS51, e_aI52, e_aS52, e_aI53, e_aS53, e_aI54, e_aS54, e_aI55, e_aS55, e_aI56, e_aS56, e_aI57, e_aS57, e_aI58, e_aS58, st, stA, stB, inb, and_self, if_true, if_false, i32_00, i32_10, i32_m40, i32_m60])
    · exact Opx.ref (c := -4) i 4 (by decide) (by simp only [f_H_papers, rf_4, hH, hP, Hout_4 _ d0, e_nm, e_bI, e_bR, e_bV, e_gI4, e_pI4, e_cV4, e_gR4_0, e_gR4_1, e_gR4_2, e_gR4_3, e_gR4_4, e_gR4_5, e_gR4_6, e_gR4_7, e_gR4_8, e_gR4_9, e_gR4_10, e_gR4_11, e_aI5, e_aS5, e_aI6, e_aS6, e_gI7, e_pI7, e_cV7, e_gR7, e_gI8, e_pI8, e_cV8, e_gR8, e_gI9, e_pI9, e_cV9, e_gR9, e_gI10, e_pI10, e_cV10, e_gR10, e_gI11, e_pI11, e_cV11, e_gR11_0, e_aI12, e_aS12, e_gI13, e_pI13, e_cV13, e_gR13_0, e_aI14, e_aS14, e_gI15, e_pI15, e_cV15, e_gI16, e_pI16, e_cV16, e_gR16_0, e_gR16_3, e_gR16_4, e_gR16_5, e_gR16_6, e_aI17, e_aS17, e_aI18, e_aS18, e_aI19, e_aS19, e_zI20, e_zS20, e_aI21, e_aS21, e_gI22, e_pI22, e_cV22, e_gR22_0, e_gR22_1, e_gR22_3, e_aI23, e_aS23, e_aI24, e_aS24, e_aI25, e_aS25, e_aI26, e_aS26, e_gI27, e_pI27, e_cV27, e_gR27_7, e_gR27_8, e_gR27_9, e_gR27_10, e_gR27_11, e_gR27_12, e_gR27_13, e_gR27_14, e_gR27_15, e_gR27_16, e_gR27_17, e_gR27_18, e_gR27_19, e_gR27_20, e_gR27_21, e_gR27_22, e_gR27_23, e_gR27_24, e_gR27_25, e_gR27_26, e_gR27_27, e_gR27_28, e_gR27_29, e_gR27_30, e_gR27_31, e_gR27_32, e_gR27_33, e_gR27_34, e_gR27_35, e_gR27_36, e_gR27_37, e_aI28, e_aS28, e_aI29, e_aS29, e_aI30, e_aS30, e_aI31, e_aS31, e_aI32, e_aS32, e_aI33, e_aS33, e_aI34, e_aS34, e_aI35, e_aS35, e_aI36, e_aS36, e_aI37, e_aS37, e_aI38, e_aS38, e_aI39, e_aS39, e_aI40, e_aS40, e_aI41, e_aS41, e_aI42, e_aS42, e_aI43, e_aS43, e_aI44, e_aS44, e_aI45, e_aS45, e_aI46, e_aS46, e_aI47, e_aS47, e_aI48, e_aS48, e_aI49, e_aS49, e_aI50, e_aS50, e_aI51, e_aS51, e_aI52, e_aS52, e_aI53, e_aS53, e_aI54, e_aS54, e_aI55, e_aS55, e_aI56, e_aS56, e_aI57, e_aS57, e_aI58, e_aS58, st, stA, stB, inb, and_self, if_true, if_false, i32_00, i32_10, i32_m40, i32_m60]) (by simp only [f_M_papers, no_4, mA, d0, e_nm, e_bI, e_bR, e_bV, e_gI4, e_pI4, e_cV4, e_gR4_0, e_gR4_1, e_gR4_2, e_gR4_3, e_gR4_4, e_gR4_5, e_gR4_6, e_gR4_7, e_gR4_8, e_gR4_9, e_gR4_10, e_gR4_11, e_aI5, e_aS5, e_aI6, e_aS6, e_gI7, e_pI7, e_cV7, e_gR7, e_gI8, e_pI8, e_cV8, e_gR8, e_gI9, e_pI9, e_cV9, e_gR9, e_gI10, e_pI10, e_cV10, e_gR10, e_gI11, e_pI11, e_cV11, e_gR11_0, e_aI12, e_aS12, e_gI13, e_pI13, e_cV13, e_gR13_0, e_aI14, e_aS14, e_gI15, e_pI15, e_cV15, e_gI16, e_pI16, e_cV16, e_gR16_0, e_gR16_3, e_gR16_4, e_gR16_5, e_gR16_6, e_aI17, e_aS17, e_aI18, e_aS18, e_aI19, e_aS19, e_zI20, e_zS20, e_aI21, e_aS21, e_gI22, e_pI22, e_cV22, e_gR22_0, e_gR22_1, e_gR22_3, e_aI23, e_aS23, e_aI24, e_aS24, e_aI25, e_aS25, e_aI26, e_aS26, e_gI27, e_pI27, e_cV27, e_gR27_7, e_gR27_8, e_gR27_9, e_gR27_10, e_gR27_11, e_gR27_12, e_gR27_13, e_gR27_14, e_gR27_15, e_gR27_16, e_gR27_17, e_gR27_18, e_gR27_19, e_gR27_20, e_gR27_21, e_gR27_22, e_gR27_23, e_gR27_24, e_gR27_25, e_gR27_26, e_gR27_27, e_gR27_28, e_gR27_29, e_gR27_30, e_gR27_31, e_gR27_32, e_gR27_33, e_gR27_34, e_gR27_35, e_gR27_36, e_gR27_37, e_aI28, e_aS28, e_aI29, e_aS29, e_aI30, e_aS30, e_aI31, e_aS31, e_aI32, e_aS32, e_aI33, e_aS33, e_aI34, e_aS34, e_aI35, e_aS35, e_aI36, e_aS36, e_aI37, e_aS37, e_aI38, e_aS38, e_aI39, e_aS39, e_aI40, e_aS40, e_aI41, e_aS41, e_aI42, e_aS42, e_aI43, e_aS43, e_aI44, e_aS44, e_aI45, e_aS45, e_aI46, e_aS46, e_aI47, e_aS47, e_aI48, e_aS48, e_aI49, e_aS49, e_aI50, e_aS50, e_aI51, e_aS51, e_aI52, e_aS52, e_aI53, e_aS53, e_aI54, e_aS54, e_aI55, e_aS55, e_aI56, e_aS56, e_aI57, e_aS57, e_aI58, e_aS58, st, stA, stB, inb, and_self, if_true, if_false, i32_00, i32_10, i32_m40, i32_m60])
