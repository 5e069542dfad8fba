/-! chance, weak -/
abbrev SX (h _k : Nat) : Prop := h = 13 ∨ h = 14 ∨ h = 53 ∨ h = 54
def PX (P : Nat → Nat) (n : Nat) (μ : Mem) : Prop := ST μ ∧ I_misc μ ∧ gi μ 27 1 = nI n ∧ n ≤ 40 ∧ LST 7 P n μ ∧ ∀ p, p < n → PER P p μ
theorem PX.fr {P : Nat → Nat} {n : Nat} {μ ν : Mem} (a : Fr SX μ ν) (x : PX P n μ) : PX P n ν := by
  obtain ⟨x1, x2, x3, x4, x5, x6⟩ := x
  have w2 : I_misc ν := x2.fr a (by decide) (by decide) (by decide) (by decide) (by decide) (by decide)
  exact ⟨x1.fr a, w2, by rw [a.2 _ _ (by decide)]; exact x3, x4, x5.fr a (by decide), fun p hp => (x6 p hp).fr a (fun h j q1 q2 => by omega) (fun h j q1 q2 => by omega)⟩
def pav (μ : Mem) (b p : Nat) : Int32 := prt (gi μ 32 p) (gi μ 33 p) (gi μ 27 0) (gi μ 35 (8 * p + b)) (gi μ 34 (8 * p + b))
theorem fx {μ ν : Mem} (a : Fr SX μ ν) (h : Nat) (q : 15 ≤ h) (q2 : h ≤ 52) : gi ν h = gi μ h := funext fun j => a.2 _ _ (by omega)
theorem pav_fr {μ ν : Mem} (a : Fr SX μ ν) (b : Nat) : pav ν b = pav μ b := funext fun p => by
  unfold pav
  rw [fx a 32 (by decide) (by decide), fx a 33 (by decide) (by decide), fx a 27 (by decide) (by decide), fx a 34 (by decide) (by decide), fx a 35 (by decide) (by decide)]
theorem pav_rng {μ : Mem} {P : Nat → Nat} {p b : Nat} (pp : PER P p μ) (hb : b < 8) : rng (pav μ b p) 0 1023 := by
  have r := pp.2.2.2.2.2.2.2.2.2.2.2.2.2.2.2 b hb
  unfold pav prt
  generalize gi μ 34 (8 * p + b) = x at r
  generalize gi μ 35 (8 * p + b) = y at r
  unfold rng at *
  split
  · decide
  · split
    · have e1 : (y + 1).toInt = y.toInt + 1 := by rw [add_ti (by simp; omega) (by simp; omega)]; rfl
      have e2 : (x + 2).toInt = x.toInt + 2 := by rw [add_ti (by simp; omega) (by simp; omega)]; rfl
      have e3 : (1024 * (y + 1)).toInt = 1024 * (y.toInt + 1) := by rw [mul_ti (by rw [e1]; simp; omega) (by rw [e1]; simp; omega), e1]; rfl
      rw [div_ti (by omega) (by omega), e2, e3]
      refine ⟨Int.ediv_nonneg (by omega) (by omega), ?_⟩
      have : 1024 * (y.toInt + 1) / (x.toInt + 2) < 1024 := Int.ediv_lt_of_lt_mul (by omega) (by omega)
      omega
    · decide
theorem sk_ok {μ : Mem} {P : Nat → Nat} {p : Nat} (pp : PER P p μ) : gi μ 31 p = nI (gi μ 31 p).toNatClampNeg ∧ (gi μ 31 p).toNatClampNeg < 16 := by
  have r := pp.2.2.2.2.2.2.2.2.2.2.2.2.1
  have e := i32_cl r.1
  have := r.2
  exact ⟨clamp_nI r.1, by omega⟩
theorem H_crew_loop {μ : Mem} {P : Nat → Nat} {n b : Nat} (x : PX P n μ) (hb : b < 8) (s : Int32) (K : Nat → Mem → Option (LV × Mem)) : ∀ f k ν, k ≤ n → n - k < f → Fr SX μ ν → (∀ r, r < 1323 → gi ν 14 r = FF (gi μ 30) (gi μ 31) (pav μ b) s k r) → gi ν 13 1 = nI (TT (gi μ 30) (gi μ 31) (pav μ b) s k) →
    ∃ ν', k_H_crewChance_9 K 4 s (nI b) f (nI k) ν = K 4 ν' ∧ Fr SX μ ν' ∧ (∀ r, r < 1323 → gi ν' 14 r = FF (gi μ 30) (gi μ 31) (pav μ b) s n r) ∧ gi ν' 13 1 = nI (TT (gi μ 30) (gi μ 31) (pav μ b) s n)
  | 0, k, ν, _, h, _, _, _ => by omega
  | f + 1, k, ν, hk, h, fr, e14, e13 => by
    have xv := x.fr fr
    have st := xv.1
    have hn := x.2.2.2.1
    have L := xv.2.2.2.2.1
    simp only [k_H_crewChance_9]
    rw [e_gR4_2 st, e_cV7 st, AL_size (st_h7 st), e_bI, L.1]
    by_cases q : k = n
    · subst q
      rw [if_pos (nI_le (Nat.le_refl _) (by omega))]
      exact ⟨ν, rfl, fr, e14, e13⟩
    · have nx := fun ν2 => H_crew_loop x hb s K f (k + 1) ν2 (by omega) (by omega)
      have pp := xv.2.2.2.2.2 k (by omega)
      have pm := x.2.2.2.2.2 k (by omega)
      have pr := pav_rng pm hb
      rw [FF_s, TT_s] at nx
      rw [if_neg (nI_ge (by omega) (by omega)), e_gR4_2 st, e_cV7 st, AL_get (st_h7 st) L (by omega) (by omega : k < n), e_bR]
      unfold cC
      rw [if_pos (Or.inr pp.2.1), gI_at pp.2.1, pp.2.2.2.2.2.2.1, fx fr 30 (by decide) (by decide)]
      unfold b_H_crewChance_87
      rw [nI_1]
      by_cases c1 : gi μ 30 k = s
      · rw [if_pos c1, gI_at pp.2.1, pp.2.2.2.2.2.2.2.1, fx fr 31 (by decide) (by decide)]
        by_cases c2 : (gi μ 31 k &&& 7) = 0
        · rw [if_pos c2]
          rw [if_neg (fun z => z.2.1 c2), if_neg (fun z => z.2.1 c2)] at nx
          exact nx ν fr e14 e13
        · have ev : f_Q_partIn (P k) (nI b) (gi ν 4 12) ν = some (.inl (pav μ b k), ν) := by
            rw [xv.2.1.1, ← pav_fr fr]
            exact Q_part pp hb _
          rw [if_neg c2, e_gI4 st, cV_at pp.2.1, ev, e_bI]
          by_cases c3 : pav μ b k = 0
          · rw [if_pos (by rw [c3]; decide)]
            rw [if_neg (fun z => z.2.2 c3), if_neg (fun z => z.2.2 c3)] at nx
            exact nx ν fr e14 e13
          · have cc : cnd (gi μ 30) (gi μ 31) (pav μ b) s k := ⟨c1, c2, c3⟩
            rw [if_pos cc, if_pos cc] at nx
            obtain ⟨sk1, sk2⟩ := sk_ok pm
            have tt := (FT (gi μ 30) (gi μ 31) (pav μ b) s k).1
            obtain ⟨ν2, o1, o2, o3, o4⟩ := R_may st (FF (gi μ 30) (gi μ 31) (pav μ b) s k) sk2 (pav μ b k) tt e14 e13 (fun r h1 h2 => FZ _ _ _ _ _ h1 h2)
            rw [if_neg (fun z => c3 (by rw [i32_le] at z; rw [i32_eq]; unfold rng at pr; simp at z ⊢; omega)), e_gR4_7 st, gI_at pp.2.1, pp.2.2.2.2.2.2.2.1, fx fr 31 (by decide) (by decide), e_cV13 st]
            rw [← sk1] at o1
            rw [o1, e_bV]
            exact nx ν2 (fr.tr (o2.up (fun h k q => by omega))) o3 o4
      · rw [if_neg c1]
        rw [if_neg (fun z => c1 z.1), if_neg (fun z => c1 z.1)] at nx
        exact nx ν fr e14 e13
theorem H_crew {μ : Mem} {P : Nat → Nat} {n b : Nat} (x : PX P n μ) (hb : b < 8) (s : Int32) : ∃ ν, f_H_crewChance 4 s (nI b) μ = some (.inl (chv (gi μ 30) (gi μ 31) (pav μ b) s (gi μ 27 5) n), ν) ∧ Fr SX μ ν := by
  have st := x.1
  have hn := x.2.2.2.1
  obtain ⟨ν1, a1, a2, a3, a4⟩ := R_clr st (gi μ 30) (gi μ 31) (pav μ b) s
  obtain ⟨ν2, b1, b2, b3, b4⟩ := H_crew_loop x hb s (fun b0 m_ => b_H_crewChance_93 b0 m_) 120000 0 ν1 (by omega) (by omega) (a2.up (fun h k q => by omega)) a3 a4
  have xv := x.fr b2
  have sv := xv.1
  refine ⟨ν2, ?_, b2⟩
  unfold f_H_crewChance
  rw [e_gR4_7 st, e_cV13 st, a1, e_bV]
  refine Eq.trans b1 ?_
  show b_H_crewChance_93 4 ν2 = _
  unfold b_H_crewChance_93
  rw [e_gR4_7 sv, e_gI4 sv, e_cV13 sv, R_stn sv _ _ _ _ _ _ b3 b4, e_bI, xv.2.1.2.1, fx b2 27 (by decide) (by decide)]
theorem zero53 {μ : Mem} (st0 : ST μ) (s b : Int32) (K : Nat → Int32 → Int32 → Mem → Option (LV × Mem)) : ∀ n j ν, j ≤ 1323 → 1323 - j < n → Fr SX μ ν → (∀ r, r < j → gi ν 53 r = 0) → ∃ ν', k_M_chanceOf_2 K 27 s b n (nI j) ν = K 27 s b ν' ∧ Fr SX μ ν' ∧ ∀ r, r < 1323 → gi ν' 53 r = 0
  | 0, j, ν, _, h, _, _ => by omega
  | n + 1, j, ν, hj, h, fr, inv => by
    have st := st0.fr fr
    simp only [k_M_chanceOf_2]
    by_cases q : j = 1323
    · subst q
      rw [if_pos (by decide)]
      exact ⟨ν, rfl, fr, inv⟩
    · rw [if_neg (show ¬ (1323 : Int32) ≤ nI j from nI_ge (b := 1323) (by omega) (by omega)), e_gR27_32 st, e_aS53 st (inb_nI (by omega) (by omega)), cl_nI (by omega), nI_1]
      refine zero53 st0 s b K n (j + 1) _ (by omega) (by omega) (fr.tr (Fr.si (S := SX) (by omega))) (fun r hr => ?_)
      by_cases e : r = j
      · rw [e, gi_eq]
      · rw [gi_ne (by omega)]; exact inv r (by omega)
theorem zero54 {μ : Mem} (st0 : ST μ) (s b a3 a4 : Int32) (K : Int32 → Int32 → Mem → Option (LV × Mem)) : ∀ n j ν, j ≤ 1323 → 1323 - j < n → Fr (fun h _ => h = 54) μ ν → (∀ r, r < j → gi ν 54 r = 0) → ∃ ν', k_M_chanceOf_85 K 27 s b a3 a4 n (nI j) ν = K a3 a4 ν' ∧ Fr (fun h _ => h = 54) μ ν' ∧ ∀ r, r < 1323 → gi ν' 54 r = 0
  | 0, j, ν, _, h, _, _ => by omega
  | n + 1, j, ν, hj, h, fr, inv => by
    have st := st0.fr fr
    simp only [k_M_chanceOf_85]
    by_cases q : j = 1323
    · subst q
      rw [if_pos (by decide)]
      exact ⟨ν, rfl, fr, inv⟩
    · rw [if_neg (show ¬ (1323 : Int32) ≤ nI j from nI_ge (b := 1323) (by omega) (by omega)), e_gR27_33 st, e_aS54 st (inb_nI (by omega) (by omega)), cl_nI (by omega), nI_1]
      refine zero54 st0 s b a3 a4 K n (j + 1) _ (by omega) (by omega) (fr.tr (Fr.si (S := fun h _ => h = 54) rfl)) (fun r hr => ?_)
      by_cases e : r = j
      · rw [e, gi_eq]
      · rw [gi_ne (by omega)]; exact inv r (by omega)
theorem copy53 {μ : Mem} (st0 : ST μ) (s b a3 : Int32) (K : Int32 → Mem → Option (LV × Mem)) : ∀ n j ν, j ≤ 1323 → 1323 - j < n → Fr (fun h _ => h = 53) μ ν → (∀ r, r < j → gi ν 53 r = gi μ 54 r) → ∃ ν', k_M_chanceOf_214 K 27 s b a3 n (nI j) ν = K a3 ν' ∧ Fr (fun h _ => h = 53) μ ν' ∧ ∀ r, r < 1323 → gi ν' 53 r = gi μ 54 r
  | 0, j, ν, _, h, _, _ => by omega
  | n + 1, j, ν, hj, h, fr, inv => by
    have st := st0.fr fr
    simp only [k_M_chanceOf_214]
    by_cases q : j = 1323
    · subst q
      rw [if_pos (by decide)]
      exact ⟨ν, rfl, fr, inv⟩
    · have ij : inb (nI j) 1323 := inb_nI (by omega) (by omega)
      rw [if_neg (show ¬ (1323 : Int32) ≤ nI j from nI_ge (b := 1323) (by omega) (by omega)), e_gR27_32 st, e_gR27_33 st, e_aI54 st ij, e_aS53 st ij, cl_nI (by omega), nI_1, fr.2 54 j (by omega)]
      refine copy53 st0 s b a3 K n (j + 1) _ (by omega) (by omega) (fr.tr (Fr.si (S := fun h _ => h = 53) rfl)) (fun r hr => ?_)
      by_cases e : r = j
      · rw [e, gi_eq]
      · rw [gi_ne (by omega)]; exact inv r (by omega)
theorem M_may {μ : Mem} (st : ST μ) (f : Nat → Int32) {k p : Nat} (hk : k < 16) (hp : p < 40) (a : Int32) (h0 : ¬ a = 0) (h10 : ¬ a = 1024) (s b : Int32) (K : Int32 → Mem → Option (LV × Mem)) (e31 : gi μ 31 p = nI k) (ef : ∀ r, r < 1323 → gi μ 53 r = f r) :
    ∃ ν', b_M_chanceOf_72 K 27 s b (nI p) a μ = K (nI p + 1) ν' ∧ Fr SX μ ν' ∧ ∀ r, r < 1323 → gi ν' 53 r = nxt f k a r := by
  obtain ⟨ν1, a1, a2, a3⟩ := zero54 st s b (nI p) a (fun b3 b4 m_ => b_M_chanceOf_107 K 27 s b b3 b4 m_) 120000 0 μ (by omega) (by omega) Fr.rf (fun r hr => by omega)
  have s1 := st.fr a2
  obtain ⟨ν2, b1, b2, b3⟩ := N_loop s1 f hk hp a h10 s b (fun b3 m_ => b_M_chanceOf_211 K 27 s b b3 m_) (by rw [a2.2 _ _ (by omega)]; exact e31) (fun r hr => by rw [a2.2 _ _ (by omega)]; exact ef r hr) 120000 0 ν1 (by omega) (by omega) Fr.rf (fun r hr => by
    rw [a3 r hr, if_neg (by omega)]
    rfl)
  have s2 := s1.fr b2
  obtain ⟨ν3, c1, c2, c3⟩ := copy53 s2 s b (nI p) (fun b3 m_ => b_M_chanceOf_242 K 27 s b b3 m_) 120000 0 ν2 (by omega) (by omega) Fr.rf (fun r hr => by omega)
  refine ⟨ν3, ?_, (a2.up (fun h k q => by omega)).tr ((b2.up (fun h k q => by omega)).tr (c2.up (fun h k q => by omega))), fun r hr => (c3 r hr).trans (b3 r hr)⟩
  unfold b_M_chanceOf_72
  rw [if_neg h0]
  refine Eq.trans a1 ?_
  show b_M_chanceOf_107 K 27 s b (nI p) a ν1 = _
  unfold b_M_chanceOf_107
  refine Eq.trans b1 ?_
  show b_M_chanceOf_211 K 27 s b (nI p) ν2 = _
  unfold b_M_chanceOf_211
  exact c1
theorem M_crew_loop {μ : Mem} {P : Nat → Nat} {n b : Nat} (x : PX P n μ) (hb : b < 8) (s : Int32) (K : Nat → Mem → Option (LV × Mem)) : ∀ f k ν, k ≤ n → n - k < f → Fr SX μ ν → (∀ r, r < 1323 → gi ν 53 r = FF (gi μ 30) (gi μ 31) (pav μ b) s k r) →
    ∃ ν', k_M_chanceOf_32 K 27 s (nI b) f (nI k) ν = K 27 ν' ∧ Fr SX μ ν' ∧ (∀ r, r < 1323 → gi ν' 53 r = FF (gi μ 30) (gi μ 31) (pav μ b) s n r)
  | 0, k, ν, _, h, _, _ => by omega
  | f + 1, k, ν, hk, h, fr, e53 => by
    have xv := x.fr fr
    have st := xv.1
    have hn := x.2.2.2.1
    simp only [k_M_chanceOf_32]
    rw [e_gI27 st, xv.2.2.1]
    by_cases q : k = n
    · subst q
      rw [if_pos (nI_le (Nat.le_refl _) (by omega))]
      exact ⟨ν, rfl, fr, e53⟩
    · have nx := fun ν2 => M_crew_loop x hb s K f (k + 1) ν2 (by omega) (by omega)
      have pp := xv.2.2.2.2.2 k (by omega)
      have pm := x.2.2.2.2.2 k (by omega)
      have pr := pav_rng pm hb
      have ik : inb (nI k) 40 := inb_nI (by omega) (by omega)
      rw [FF_s, ← nI_1] at nx
      have skip : ∀ ν2, b_M_chanceOf_71 (k_M_chanceOf_32 K 27 s (nI b) f) 27 s (nI b) (nI k) ν2 = k_M_chanceOf_32 K 27 s (nI b) f (nI k + 1) ν2 := fun ν2 => by
        unfold b_M_chanceOf_71 b_M_chanceOf_72
        rw [if_pos rfl]
        rfl
      rw [if_neg (nI_ge (by omega) (by omega)), e_gR27_9 st, e_aI30 st ik, cl_nI (by omega), fx fr 30 (by decide) (by decide)]
      by_cases c1 : gi μ 30 k = s
      · rw [if_pos c1, e_gR27_10 st, e_aI31 st ik, cl_nI (by omega), fx fr 31 (by decide) (by decide)]
        by_cases c2 : (gi μ 31 k &&& 7) = 0
        · rw [if_pos c2, skip]
          rw [if_neg (fun z => z.2.1 c2)] at nx
          exact nx ν fr e53
        · have ev : f_M_part 27 (nI k) (nI b) ν = some (.inl (pav μ b k), ν) := by
            rw [← pav_fr fr]
            exact M_part st (by omega) hb (pp.2.2.2.2.2.2.2.2.2.2.2.2.2.2.2 b hb).1
          rw [if_neg c2, e_cV27 st, ev, e_bI]
          by_cases c3 : pav μ b k = 0
          · rw [c3]
            rw [if_neg (fun z => z.2.2 c3)] at nx
            refine (skip ν ▸ nx ν fr e53 : _)
          · have cc : cnd (gi μ 30) (gi μ 31) (pav μ b) s k := ⟨c1, c2, c3⟩
            rw [if_pos cc] at nx
            obtain ⟨sk1, sk2⟩ := sk_ok pm
            obtain ⟨ν2, o1, o2, o3⟩ := M_may st (FF (gi μ 30) (gi μ 31) (pav μ b) s k) sk2 (by omega : k < 40) (pav μ b k) c3 (fun z => by rw [z] at pr; revert pr; decide) s (nI b) (k_M_chanceOf_32 K 27 s (nI b) f) (by rw [fx fr 31 (by decide) (by decide)]; exact sk1) e53
            rw [o1]
            exact nx ν2 (fr.tr o2) o3
      · rw [if_neg c1, skip]
        rw [if_neg (fun z => c1 z.1)] at nx
        exact nx ν fr e53
theorem M_crew {μ : Mem} {P : Nat → Nat} {n b : Nat} (x : PX P n μ) (hb : b < 8) (s : Int32) : ∃ ν, f_M_chanceOf 27 s (nI b) μ = some (.inl (chv (gi μ 30) (gi μ 31) (pav μ b) s (gi μ 27 5) n), ν) ∧ Fr SX μ ν := by
  have st := x.1
  have hn := x.2.2.2.1
  obtain ⟨ν1, a1, a2, a3⟩ := zero53 st s (nI b) (fun b0 b1 b2 m_ => b_M_chanceOf_22 b0 b1 b2 m_) 120000 0 μ (by omega) (by omega) Fr.rf (fun r hr => by omega)
  have s1 := st.fr a2
  have fr1 : Fr SX μ (si ν1 53 0 1048576) := a2.tr (Fr.si (S := SX) (by omega))
  obtain ⟨ν2, b1, b2, b3⟩ := M_crew_loop x hb s (fun b0 m_ => b_M_chanceOf_248 b0 m_) 120000 0 (si ν1 53 0 1048576) (by omega) (by omega) fr1 (fun r hr => by
    unfold FF
    by_cases e : r = 0
    · rw [if_pos e, e, gi_eq]
    · rw [if_neg e, gi_ne (by omega)]
      exact a3 r hr)
  have xv := x.fr b2
  have sv := xv.1
  refine ⟨ν2, ?_, b2⟩
  unfold f_M_chanceOf
  refine Eq.trans a1 ?_
  show b_M_chanceOf_22 27 s (nI b) ν1 = _
  unfold b_M_chanceOf_22
  rw [e_gR27_32 s1, e_aS53 s1 (show inb 0 1323 from inb_nI (p := 0) (by decide) (by decide))]
  refine Eq.trans b1 ?_
  show b_M_chanceOf_248 27 ν2 = _
  unfold b_M_chanceOf_248
  have m := M_stn_loop sv (FF (gi μ 30) (gi μ 31) (pav μ b) s n) b3 120000 0 (by omega) (by omega)
  rw [fx b2 27 (by decide) (by decide)] at m
  exact m
/-- in how many of the first bands it is below e -/
def wkv (g : Nat → Int32) (e : Int32) : Nat → Int32
  | 0 => 0
  | k + 1 => if e ≤ g k then wkv g e k else wkv g e k + 1
theorem wkv_s (g : Nat → Int32) (e : Int32) (k : Nat) : wkv g e (k + 1) = if e ≤ g k then wkv g e k else wkv g e k + 1 := rfl
theorem chv_fr {μ ν : Mem} (a : Fr SX μ ν) (b n : Nat) (s : Int32) : chv (gi ν 30) (gi ν 31) (pav ν b) s (gi ν 27 5) n = chv (gi μ 30) (gi μ 31) (pav μ b) s (gi μ 27 5) n := by
  rw [fx a 30 (by decide) (by decide), fx a 31 (by decide) (by decide), fx a 27 (by decide) (by decide), pav_fr a]
theorem H_weak_loop {μ : Mem} {P : Nat → Nat} {n : Nat} (x : PX P n μ) (s e : Int32) : ∀ f k ν, k ≤ 8 → 8 - k < f → Fr SX μ ν → ∃ ν', k_H_weak_46 4 s e f (wkv (fun b => chv (gi μ 30) (gi μ 31) (pav μ b) s (gi μ 27 5) n) e k) (nI k) ν = some (.inl (wkv (fun b => chv (gi μ 30) (gi μ 31) (pav μ b) s (gi μ 27 5) n) e 8), ν') ∧ Fr SX μ ν'
  | 0, k, ν, _, h, _ => by omega
  | f + 1, k, ν, hk, h, fr => by
    have xv := x.fr fr
    simp only [k_H_weak_46]
    by_cases q : k = 8
    · subst q
      rw [if_pos (by decide)]
      exact ⟨ν, rfl, fr⟩
    · obtain ⟨ν2, a1, a2⟩ := H_crew xv (b := k) (by omega) s
      rw [chv_fr fr] at a1
      have nx := H_weak_loop x s e f (k + 1) ν2 (by omega) (by omega) (fr.tr a2)
      rw [wkv_s, ← nI_1] at nx
      rw [if_neg (show ¬ (8 : Int32) ≤ nI k from nI_ge (b := 8) (by omega) (by omega)), e_cV4 xv.1, a1, e_bI]
      by_cases c : e ≤ chv (gi μ 30) (gi μ 31) (pav μ k) s (gi μ 27 5) n
      · rw [if_pos c] at nx ⊢
        exact nx
      · rw [if_neg c] at nx ⊢
        exact nx
theorem M_weak_loop {μ : Mem} {P : Nat → Nat} {n : Nat} (x : PX P n μ) (s d : Int32) : ∀ f k ν, k ≤ 8 → 8 - k < f → Fr SX μ ν → ∃ ν', k_M_weak_42 27 s d f (wkv (fun b => chv (gi μ 30) (gi μ 31) (pav μ b) s (gi μ 27 5) n) (1048576 * d / 100) k) (nI k) ν = some (.inl (wkv (fun b => chv (gi μ 30) (gi μ 31) (pav μ b) s (gi μ 27 5) n) (1048576 * d / 100) 8), ν') ∧ Fr SX μ ν'
  | 0, k, ν, _, h, _ => by omega
  | f + 1, k, ν, hk, h, fr => by
    have xv := x.fr fr
    simp only [k_M_weak_42]
    by_cases q : k = 8
    · subst q
      rw [if_pos (by decide)]
      exact ⟨ν, rfl, fr⟩
    · obtain ⟨ν2, a1, a2⟩ := M_crew xv (b := k) (by omega) s
      rw [chv_fr fr] at a1
      have nx := M_weak_loop x s d f (k + 1) ν2 (by omega) (by omega) (fr.tr a2)
      rw [wkv_s, ← nI_1] at nx
      rw [if_neg (show ¬ (8 : Int32) ≤ nI k from nI_ge (b := 8) (by omega) (by omega)), e_cV27 xv.1, a1, e_bI]
      by_cases c : 1048576 * d / 100 ≤ chv (gi μ 30) (gi μ 31) (pav μ k) s (gi μ 27 5) n
      · rw [if_pos c] at nx ⊢
        exact nx
      · rw [if_neg c] at nx ⊢
        exact nx
theorem op_chance {μ : Mem} (i : Inv μ) (s w : Int32) : Opx (f_H_chance 4 s w) (f_M_chance 27 s w) μ := by
  have st := i.1
  have stA : ∀ h k x, ST (si μ h k x) := fun _ _ _ => st
  have stB : ∀ h k x h' k' x', ST (si (si μ h k x) h' k' x') := fun _ _ _ _ _ _ => st
  obtain ⟨P, n, hn, c1, c2, c3, -⟩ := i.2.2.2.2.2.2.2.1
  have x : PX P n μ := ⟨st, i.2.1, c1, hn, c2, c3⟩
  by_cases h0 : s < 0 ∨ 6 ≤ s
  · exact Opx.ref (c := -1) i 1 (by decide) (by simp only [f_H_chance, rf_1, b_H_chance_14, HisStation_f _ h0, e_nm, e_bI, e_bR, e_bV, e_gI4, e_pI4, e_cV4, e_gR4_0, e_gR4_1, e_gR4_2, e_gR4_3, e_gR4_4, e_gR4_5, e_gR4_6, e_gR4_7, e_gR4_8, e_gR4_9, e_gR4_10, e_gR4_11, e_aI5, e_aS5, e_aI6, e_aS6, e_gI7, e_pI7, e_cV7, e_gR7, e_gI8, e_pI8, e_cV8, e_gR8, e_gI9, e_pI9, e_cV9, e_gR9, e_gI10, e_pI10, e_cV10, e_gR10, e_gI11, e_pI11, e_cV11, e_gR11_0, e_aI12, e_aS12, e_gI13, e_pI13, e_cV13, e_gR13_0, e_aI14, e_aS14, e_gI15, e_pI15, e_cV15, e_gI16, e_pI16, e_cV16, e_gR16_0, e_gR16_3, e_gR16_4, e_gR16_5, e_gR16_6, e_aI17, e_aS17, e_aI18, e_aS18, e_aI19, e_aS19, e_zI20, e_zS20, e_aI21, e_aS21, e_gI22, e_pI22, e_cV22, e_gR22_0, e_gR22_1, e_gR22_3, e_aI23, e_aS23, e_aI24, e_aS24, e_aI25, e_aS25, e_aI26, e_aS26, e_gI27, e_pI27, e_cV27, e_gR27_7, e_gR27_8, e_gR27_9, e_gR27_10, e_gR27_11, e_gR27_12, e_gR27_13, e_gR27_14, e_gR27_15, e_gR27_16, e_gR27_17, e_gR27_18, e_gR27_19, e_gR27_20, e_gR27_21, e_gR27_22, e_gR27_23, e_gR27_24, e_gR27_25, e_gR27_26, e_gR27_27, e_gR27_28, e_gR27_29, e_gR27_30, e_gR27_31, e_gR27_32, e_gR27_33, e_gR27_34, e_gR27_35, e_gR27_36, e_gR27_37, e_aI28, e_aS28, e_aI29, e_aS29, e_aI30, e_aS30, e_aI31, e_aS31, e_aI32, e_aS32, e_aI33, e_aS33, e_aI34, e_aS34, e_aI35, e_aS35, e_aI36, e_aS36, e_aI37, e_aS37, e_aI38, e_aS38, e_aI39, e_aS39, e_aI40, e_aS40, e_aI41, e_aS41, e_aI42, e_aS42, e_aI43, e_aS43, e_aI44, e_aS44, e_aI45, e_aS45, e_aI46, e_aS46, e_aI47, e_aS47, e_aI48, e_aS48, e_aI49, e_aS49, e_aI50, e_aS50, e_aI51, e_aS51, e_aI52, e_aS52, e_aI53, e_aS53, e_aI54, e_aS54, e_aI55, e_aS55, e_aI56, e_aS56, e_aI57, e_aS57, e_aI58, e_aS58, st, stA, stB, inb, and_self, if_true, if_false, i32_00, i32_10, i32_m40, i32_m60]) (by simp only [f_M_chance, no_1, b_M_chance_23, MisStation_f _ h0, e_nm, e_bI, e_bR, e_bV, e_gI4, e_pI4, e_cV4, e_gR4_0, e_gR4_1, e_gR4_2, e_gR4_3, e_gR4_4, e_gR4_5, e_gR4_6, e_gR4_7, e_gR4_8, e_gR4_9, e_gR4_10, e_gR4_11, e_aI5, e_aS5, e_aI6, e_aS6, e_gI7, e_pI7, e_cV7, e_gR7, e_gI8, e_pI8, e_cV8, e_gR8, e_gI9, e_pI9, e_cV9, e_gR9, e_gI10, e_pI10, e_cV10, e_gR10, e_gI11, e_pI11, e_cV11, e_gR11_0, e_aI12, e_aS12, e_gI13, e_pI13, e_cV13, e_gR13_0, e_aI14, e_aS14, e_gI15, e_pI15, e_cV15, e_gI16, e_pI16, e_cV16, e_gR16_0, e_gR16_3, e_gR16_4, e_gR16_5, e_gR16_6, e_aI17, e_aS17, e_aI18, e_aS18, e_aI19, e_aS19, e_zI20, e_zS20, e_aI21, e_aS21, e_gI22, e_pI22, e_cV22, e_gR22_0, e_gR22_1, e_gR22_3, e_aI23, e_aS23, e_aI24, e_aS24, e_aI25, e_aS25, e_aI26, e_aS26, e_gI27, e_pI27, e_cV27, e_gR27_7, e_gR27_8, e_gR27_9, e_gR27_10, e_gR27_11, e_gR27_12, e_gR27_13, e_gR27_14, e_gR27_15, e_gR27_16, e_gR27_17, e_gR27_18, e_gR27_19, e_gR27_20, e_gR27_21, e_gR27_22, e_gR27_23, e_gR27_24, e_gR27_25, e_gR27_26, e_gR27_27, e_gR27_28, e_gR27_29, e_gR27_30, e_gR27_31, e_gR27_32, e_gR27_33, e_gR27_34, e_gR27_35, e_gR27_36, e_gR27_37, e_aI28, e_aS28, e_aI29, e_aS29, e_aI30, e_aS30, e_aI31, e_aS31, e_aI32, e_aS32, e_aI33, e_aS33, e_aI34, e_aS34, e_aI35, e_aS35, e_aI36, e_aS36, e_aI37, e_aS37, e_aI38, e_aS38, e_aI39, e_aS39, e_aI40, e_aS40, e_aI41, e_aS41, e_aI42, e_aS42, e_aI43, e_aS43, e_aI44, e_aS44, e_aI45, e_aS45, e_aI46, e_aS46, e_aI47, e_aS47, e_aI48, e_aS48, e_aI49, e_aS49, e_aI50, e_aS50, e_aI51, e_aS51, e_aI52, e_aS52, e_aI53, e_aS53, e_aI54, e_aS54, e_aI55, e_aS55, e_aI56, e_aS56, e_aI57, e_aS57, e_aI58, e_aS58, st, stA, stB, inb, and_self, if_true, if_false, i32_00, i32_10, i32_m40, i32_m60])
  have s1 : ¬ s < 0 := fun q => h0 (Or.inl q)
  have s2 : ¬ 6 ≤ s := fun q => h0 (Or.inr q)
  by_cases w0 : w < 0 ∨ 8 ≤ w
  · exact Opx.ref (c := -1) i 1 (by decide) (by simp only [f_H_chance, rf_1, b_H_chance_14, HisStation_t _ s1 s2, HisBand_f _ w0, e_nm, e_bI, e_bR, e_bV, e_gI4, e_pI4, e_cV4, e_gR4_0, e_gR4_1, e_gR4_2, e_gR4_3, e_gR4_4, e_gR4_5, e_gR4_6, e_gR4_7, e_gR4_8, e_gR4_9, e_gR4_10, e_gR4_11, e_aI5, e_aS5, e_aI6, e_aS6, e_gI7, e_pI7, e_cV7, e_gR7, e_gI8, e_pI8, e_cV8, e_gR8, e_gI9, e_pI9, e_cV9, e_gR9, e_gI10, e_pI10, e_cV10, e_gR10, e_gI11, e_pI11, e_cV11, e_gR11_0, e_aI12, e_aS12, e_gI13, e_pI13, e_cV13, e_gR13_0, e_aI14, e_aS14, e_gI15, e_pI15, e_cV15, e_gI16, e_pI16, e_cV16, e_gR16_0, e_gR16_3, e_gR16_4, e_gR16_5, e_gR16_6, e_aI17, e_aS17, e_aI18, e_aS18, e_aI19, e_aS19, e_zI20, e_zS20, e_aI21, e_aS21, e_gI22, e_pI22, e_cV22, e_gR22_0, e_gR22_1, e_gR22_3, e_aI23, e_aS23, e_aI24, e_aS24, e_aI25, e_aS25, e_aI26, e_aS26, e_gI27, e_pI27, e_cV27, e_gR27_7, e_gR27_8, e_gR27_9, e_gR27_10, e_gR27_11, e_gR27_12, e_gR27_13, e_gR27_14, e_gR27_15, e_gR27_16, e_gR27_17, e_gR27_18, e_gR27_19, e_gR27_20, e_gR27_21, e_gR27_22, e_gR27_23, e_gR27_24, e_gR27_25, e_gR27_26, e_gR27_27, e_gR27_28, e_gR27_29, e_gR27_30, e_gR27_31, e_gR27_32, e_gR27_33, e_gR27_34, e_gR27_35, e_gR27_36, e_gR27_37, e_aI28, e_aS28, e_aI29, e_aS29, e_aI30, e_aS30, e_aI31, e_aS31, e_aI32, e_aS32, e_aI33, e_aS33, e_aI34, e_aS34, e_aI35, e_aS35, e_aI36, e_aS36, e_aI37, e_aS37, e_aI38, e_aS38, e_aI39, e_aS39, e_aI40, e_aS40, e_aI41, e_aS41, e_aI42, e_aS42, e_aI43, e_aS43, e_aI44, e_aS44, e_aI45, e_aS45, e_aI46, e_aS46, e_aI47, e_aS47, e_aI48, e_aS48, e_aI49, e_aS49, e_aI50, e_aS50, e_aI51, e_aS51, e_aI52, e_aS52, e_aI53, e_aS53, e_aI54, e_aS54, e_aI55, e_aS55, e_aI56, e_aS56, e_aI57, e_aS57, e_aI58, e_aS58, st, stA, stB, inb, and_self, if_true, if_false, i32_00, i32_10, i32_m40, i32_m60]) (by simp only [f_M_chance, no_1, b_M_chance_23, MisStation_t _ s1 s2, MisBand_f _ w0, e_nm, e_bI, e_bR, e_bV, e_gI4, e_pI4, e_cV4, e_gR4_0, e_gR4_1, e_gR4_2, e_gR4_3, e_gR4_4, e_gR4_5, e_gR4_6, e_gR4_7, e_gR4_8, e_gR4_9, e_gR4_10, e_gR4_11, e_aI5, e_aS5, e_aI6, e_aS6, e_gI7, e_pI7, e_cV7, e_gR7, e_gI8, e_pI8, e_cV8, e_gR8, e_gI9, e_pI9, e_cV9, e_gR9, e_gI10, e_pI10, e_cV10, e_gR10, e_gI11, e_pI11, e_cV11, e_gR11_0, e_aI12, e_aS12, e_gI13, e_pI13, e_cV13, e_gR13_0, e_aI14, e_aS14, e_gI15, e_pI15, e_cV15, e_gI16, e_pI16, e_cV16, e_gR16_0, e_gR16_3, e_gR16_4, e_gR16_5, e_gR16_6, e_aI17, e_aS17, e_aI18, e_aS18, e_aI19, e_aS19, e_zI20, e_zS20, e_aI21, e_aS21, e_gI22, e_pI22, e_cV22, e_gR22_0, e_gR22_1, e_gR22_3, e_aI23, e_aS23, e_aI24, e_aS24, e_aI25, e_aS25, e_aI26, e_aS26, e_gI27, e_pI27, e_cV27, e_gR27_7, e_gR27_8, e_gR27_9, e_gR27_10, e_gR27_11, e_gR27_12, e_gR27_13, e_gR27_14, e_gR27_15, e_gR27_16, e_gR27_17, e_gR27_18, e_gR27_19, e_gR27_20, e_gR27_21, e_gR27_22, e_gR27_23, e_gR27_24, e_gR27_25, e_gR27_26, e_gR27_27, e_gR27_28, e_gR27_29, e_gR27_30, e_gR27_31, e_gR27_32, e_gR27_33, e_gR27_34, e_gR27_35, e_gR27_36, e_gR27_37, e_aI28, e_aS28, e_aI29, e_aS29, e_aI30, e_aS30, e_aI31, e_aS31, e_aI32, e_aS32, e_aI33, e_aS33, e_aI34, e_aS34, e_aI35, e_aS35, e_aI36, e_aS36, e_aI37, e_aS37, e_aI38, e_aS38, e_aI39, e_aS39, e_aI40, e_aS40, e_aI41, e_aS41, e_aI42, e_aS42, e_aI43, e_aS43, e_aI44, e_aS44, e_aI45, e_aS45, e_aI46, e_aS46, e_aI47, e_aS47, e_aI48, e_aS48, e_aI49, e_aS49, e_aI50, e_aS50, e_aI51, e_aS51, e_aI52, e_aS52, e_aI53, e_aS53, e_aI54, e_aS54, e_aI55, e_aS55, e_aI56, e_aS56, e_aI57, e_aS57, e_aI58, e_aS58, st, stA, stB, inb, and_self, if_true, if_false, i32_00, i32_10, i32_m40, i32_m60])
  have w1 : ¬ w < 0 := fun q => w0 (Or.inl q)
  have w2 : ¬ 8 ≤ w := fun q => w0 (Or.inr q)
  obtain ⟨b, hb, rfl⟩ := of_rng (n := 8) w1 (by rw [i32_le] at w2; simp at w2; omega)
  obtain ⟨ν, a1, a2⟩ := H_crew x hb s
  have sv := st.fr a2
  obtain ⟨ν2, b1, b2⟩ := M_crew (x.fr a2) hb s
  rw [chv_fr a2] at b1
  refine ⟨chv (gi μ 30) (gi μ 31) (pav μ b) s (gi μ 27 5) n, ν, ν2, ?_, sv, ?_, i.sc ((a2.up (fun h k q => by omega)).tr (b2.up (fun h k q => by omega)))⟩
  · unfold f_H_chance
    rw [HisStation_t _ s1 s2, e_bI, if_neg (by decide), HisBand_t _ w1 w2, e_bI, if_neg (by decide), e_cV4 st, a1, e_bI]
  · unfold f_M_chance
    rw [MisStation_t _ s1 s2, e_bI, if_neg (by decide), MisBand_t _ w1 w2, e_bI, if_neg (by decide), e_cV27 sv, b1, e_bI]
theorem op_weak {μ : Mem} (i : Inv μ) (s w : Int32) : Opx (f_H_weak 4 s w) (f_M_weak 27 s w) μ := by
  have st := i.1
  have stA : ∀ h k x, ST (si μ h k x) := fun _ _ _ => st
  have stB : ∀ h k x h' k' x', ST (si (si μ h k x) h' k' x') := fun _ _ _ _ _ _ => st
  obtain ⟨P, n, hn, c1, c2, c3, -⟩ := i.2.2.2.2.2.2.2.1
  have x : PX P n μ := ⟨st, i.2.1, c1, hn, c2, c3⟩
  by_cases h0 : s < 0 ∨ 6 ≤ s
  · exact Opx.ref (c := -1) i 1 (by decide) (by simp only [f_H_weak, rf_1, HisStation_f _ h0, e_nm, e_bI, e_bR, e_bV, e_gI4, e_pI4, e_cV4, e_gR4_0, e_gR4_1, e_gR4_2, e_gR4_3, e_gR4_4, e_gR4_5, e_gR4_6, e_gR4_7, e_gR4_8, e_gR4_9, e_gR4_10, e_gR4_11, e_aI5, e_aS5, e_aI6, e_aS6, e_gI7, e_pI7, e_cV7, e_gR7, e_gI8, e_pI8, e_cV8, e_gR8, e_gI9, e_pI9, e_cV9, e_gR9, e_gI10, e_pI10, e_cV10, e_gR10, e_gI11, e_pI11, e_cV11, e_gR11_0, e_aI12, e_aS12, e_gI13, e_pI13, e_cV13, e_gR13_0, e_aI14, e_aS14, e_gI15, e_pI15, e_cV15, e_gI16, e_pI16, e_cV16, e_gR16_0, e_gR16_3, e_gR16_4, e_gR16_5, e_gR16_6, e_aI17, e_aS17, e_aI18, e_aS18, e_aI19, e_aS19, e_zI20, e_zS20, e_aI21, e_aS21, e_gI22, e_pI22, e_cV22, e_gR22_0, e_gR22_1, e_gR22_3, e_aI23, e_aS23, e_aI24, e_aS24, e_aI25, e_aS25, e_aI26, e_aS26, e_gI27, e_pI27, e_cV27, e_gR27_7, e_gR27_8, e_gR27_9, e_gR27_10, e_gR27_11, e_gR27_12, e_gR27_13, e_gR27_14, e_gR27_15, e_gR27_16, e_gR27_17, e_gR27_18, e_gR27_19, e_gR27_20, e_gR27_21, e_gR27_22, e_gR27_23, e_gR27_24, e_gR27_25, e_gR27_26, e_gR27_27, e_gR27_28, e_gR27_29, e_gR27_30, e_gR27_31, e_gR27_32, e_gR27_33, e_gR27_34, e_gR27_35, e_gR27_36, e_gR27_37, e_aI28, e_aS28, e_aI29, e_aS29, e_aI30, e_aS30, e_aI31, e_aS31, e_aI32, e_aS32, e_aI33, e_aS33, e_aI34, e_aS34, e_aI35, e_aS35, e_aI36, e_aS36, e_aI37, e_aS37, e_aI38, e_aS38, e_aI39, e_aS39, e_aI40, e_aS40, e_aI41, e_aS41, e_aI42, e_aS42, e_aI43, e_aS43, e_aI44, e_aS44, e_aI45, e_aS45, e_aI46, e_aS46, e_aI47, e_aS47, e_aI48, e_aS48, e_aI49, e_aS49, e_aI50, e_aS50, e_aI51, e_aS51, e_aI52, e_aS52, e_aI53, e_aS53, e_aI54, e_aS54, e_aI55, e_aS55, e_aI56, e_aS56, e_aI57, e_aS57, e_aI58, e_aS58, st, stA, stB, inb, and_self, if_true, if_false, i32_00, i32_10, i32_m40, i32_m60]) (by simp only [f_M_weak, no_1, MisStation_f _ h0, e_nm, e_bI, e_bR, e_bV, e_gI4, e_pI4, e_cV4, e_gR4_0, e_gR4_1, e_gR4_2, e_gR4_3, e_gR4_4, e_gR4_5, e_gR4_6, e_gR4_7, e_gR4_8, e_gR4_9, e_gR4_10, e_gR4_11, e_aI5, e_aS5, e_aI6, e_aS6, e_gI7, e_pI7, e_cV7, e_gR7, e_gI8, e_pI8, e_cV8, e_gR8, e_gI9, e_pI9, e_cV9, e_gR9, e_gI10, e_pI10, e_cV10, e_gR10, e_gI11, e_pI11, e_cV11, e_gR11_0, e_aI12, e_aS12, e_gI13, e_pI13, e_cV13, e_gR13_0, e_aI14, e_aS14, e_gI15, e_pI15, e_cV15, e_gI16, e_pI16, e_cV16, e_gR16_0, e_gR16_3, e_gR16_4, e_gR16_5, e_gR16_6, e_aI17, e_aS17, e_aI18, e_aS18, e_aI19, e_aS19, e_zI20, e_zS20, e_aI21, e_aS21, e_gI22, e_pI22, e_cV22, e_gR22_0, e_gR22_1, e_gR22_3, e_aI23, e_aS23, e_aI24, e_aS24, e_aI25, e_aS25, e_aI26, e_aS26, e_gI27, e_pI27, e_cV27, e_gR27_7, e_gR27_8, e_gR27_9, e_gR27_10, e_gR27_11, e_gR27_12, e_gR27_13, e_gR27_14, e_gR27_15, e_gR27_16, e_gR27_17, e_gR27_18, e_gR27_19, e_gR27_20, e_gR27_21, e_gR27_22, e_gR27_23, e_gR27_24, e_gR27_25, e_gR27_26, e_gR27_27, e_gR27_28, e_gR27_29, e_gR27_30, e_gR27_31, e_gR27_32, e_gR27_33, e_gR27_34, e_gR27_35, e_gR27_36, e_gR27_37, e_aI28, e_aS28, e_aI29, e_aS29, e_aI30, e_aS30, e_aI31, e_aS31, e_aI32, e_aS32, e_aI33, e_aS33, e_aI34, e_aS34, e_aI35, e_aS35, e_aI36, e_aS36, e_aI37, e_aS37, e_aI38, e_aS38, e_aI39, e_aS39, e_aI40, e_aS40, e_aI41, e_aS41, e_aI42, e_aS42, e_aI43, e_aS43, e_aI44, e_aS44, e_aI45, e_aS45, e_aI46, e_aS46, e_aI47, e_aS47, e_aI48, e_aS48, e_aI49, e_aS49, e_aI50, e_aS50, e_aI51, e_aS51, e_aI52, e_aS52, e_aI53, e_aS53, e_aI54, e_aS54, e_aI55, e_aS55, e_aI56, e_aS56, e_aI57, e_aS57, e_aI58, e_aS58, st, stA, stB, inb, and_self, if_true, if_false, i32_00, i32_10, i32_m40, i32_m60])
  have s1 : ¬ s < 0 := fun q => h0 (Or.inl q)
  have s2 : ¬ 6 ≤ s := fun q => h0 (Or.inr q)
  by_cases w0 : 0 ≤ w
  · by_cases w1 : w ≤ 100
    · obtain ⟨ν, a1, a2⟩ := H_weak_loop x s (1048576 * w / 100) 120000 0 μ (by omega) (by omega) Fr.rf
      have sv := st.fr a2
      obtain ⟨ν2, b1, b2⟩ := M_weak_loop (x.fr a2) s w 120000 0 ν (by omega) (by omega) Fr.rf
      have eg : (fun b => chv (gi ν 30) (gi ν 31) (pav ν b) s (gi ν 27 5) n) = (fun b => chv (gi μ 30) (gi μ 31) (pav μ b) s (gi μ 27 5) n) := funext fun b => chv_fr a2 b n s
      rw [eg] at b1
      refine ⟨wkv (fun b => chv (gi μ 30) (gi μ 31) (pav μ b) s (gi μ 27 5) n) (1048576 * w / 100) 8, ν, ν2, ?_, sv, ?_, i.sc ((a2.up (fun h k q => by omega)).tr (b2.up (fun h k q => by omega)))⟩
      · unfold f_H_weak
        rw [HisStation_t _ s1 s2, e_bI, if_neg (by decide), Hout_0 _ w0 w1, e_bI, if_pos rfl, e_nm]
        exact a1
      · unfold f_M_weak
        rw [MisStation_t _ s1 s2, e_bI, if_neg (by decide), if_pos w0, if_pos w1]
        exact b1
    · exact Opx.ref (c := -6) i 6 (by decide) (by simp only [f_H_weak, rf_6, HisStation_t _ s1 s2, Hout_6 _ w0 w1, e_nm, e_bI, e_bR, e_bV, e_gI4, e_pI4, e_cV4, e_gR4_0, e_gR4_1, e_gR4_2, e_gR4_3, e_gR4_4, e_gR4_5, e_gR4_6, e_gR4_7, e_gR4_8, e_gR4_9, e_gR4_10, e_gR4_11, e_aI5, e_aS5, e_aI6, e_aS6, e_gI7, e_pI7, e_cV7, e_gR7, e_gI8, e_pI8, e_cV8, e_gR8, e_gI9, e_pI9, e_cV9, e_gR9, e_gI10, e_pI10, e_cV10, e_gR10, e_gI11, e_pI11, e_cV11, e_gR11_0, e_aI12, e_aS12, e_gI13, e_pI13, e_cV13, e_gR13_0, e_aI14, e_aS14, e_gI15, e_pI15, e_cV15, e_gI16, e_pI16, e_cV16, e_gR16_0, e_gR16_3, e_gR16_4, e_gR16_5, e_gR16_6, e_aI17, e_aS17, e_aI18, e_aS18, e_aI19, e_aS19, e_zI20, e_zS20, e_aI21, e_aS21, e_gI22, e_pI22, e_cV22, e_gR22_0, e_gR22_1, e_gR22_3, e_aI23, e_aS23, e_aI24, e_aS24, e_aI25, e_aS25, e_aI26, e_aS26, e_gI27, e_pI27, e_cV27, e_gR27_7, e_gR27_8, e_gR27_9, e_gR27_10, e_gR27_11, e_gR27_12, e_gR27_13, e_gR27_14, e_gR27_15, e_gR27_16, e_gR27_17, e_gR27_18, e_gR27_19, e_gR27_20, e_gR27_21, e_gR27_22, e_gR27_23, e_gR27_24, e_gR27_25, e_gR27_26, e_gR27_27, e_gR27_28, e_gR27_29, e_gR27_30, e_gR27_31, e_gR27_32, e_gR27_33, e_gR27_34, e_gR27_35, e_gR27_36, e_gR27_37, e_aI28, e_aS28, e_aI29, e_aS29, e_aI30, e_aS30, e_aI31, e_aS31, e_aI32, e_aS32, e_aI33, e_aS33, e_aI34, e_aS34, e_aI35, e_aS35, e_aI36, e_aS36, e_aI37, e_aS37, e_aI38, e_aS38, e_aI39, e_aS39, e_aI40, e_aS40, e_aI41, e_aS41, e_aI42, e_aS42, e_aI43, e_aS43, e_aI44, e_aS44, e_aI45, e_aS45, e_aI46, e_aS46, e_aI47, e_aS47, e_aI48, e_aS48, e_aI49, e_aS49, e_aI50, e_aS50, e_aI51, e_aS51, e_aI52, e_aS52, e_aI53, e_aS53, e_aI54, e_aS54, e_aI55, e_aS55, e_aI56, e_aS56, e_aI57, e_aS57, e_aI58, e_aS58, st, stA, stB, inb, and_self, if_true, if_false, i32_00, i32_10, i32_m40, i32_m60]) (by simp only [f_M_weak, no_6, MisStation_t _ s1 s2, w0, w1, e_nm, e_bI, e_bR, e_bV, e_gI4, e_pI4, e_cV4, e_gR4_0, e_gR4_1, e_gR4_2, e_gR4_3, e_gR4_4, e_gR4_5, e_gR4_6, e_gR4_7, e_gR4_8, e_gR4_9, e_gR4_10, e_gR4_11, e_aI5, e_aS5, e_aI6, e_aS6, e_gI7, e_pI7, e_cV7, e_gR7, e_gI8, e_pI8, e_cV8, e_gR8, e_gI9, e_pI9, e_cV9, e_gR9, e_gI10, e_pI10, e_cV10, e_gR10, e_gI11, e_pI11, e_cV11, e_gR11_0, e_aI12, e_aS12, e_gI13, e_pI13, e_cV13, e_gR13_0, e_aI14, e_aS14, e_gI15, e_pI15, e_cV15, e_gI16, e_pI16, e_cV16, e_gR16_0, e_gR16_3, e_gR16_4, e_gR16_5, e_gR16_6, e_aI17, e_aS17, e_aI18, e_aS18, e_aI19, e_aS19, e_zI20, e_zS20, e_aI21, e_aS21, e_gI22, e_pI22, e_cV22, e_gR22_0, e_gR22_1, e_gR22_3, e_aI23, e_aS23, e_aI24, e_aS24, e_aI25, e_aS25, e_aI26, e_aS26, e_gI27, e_pI27, e_cV27, e_gR27_7, e_gR27_8, e_gR27_9, e_gR27_10, e_gR27_11, e_gR27_12, e_gR27_13, e_gR27_14, e_gR27_15, e_gR27_16, e_gR27_17, e_gR27_18, e_gR27_19, e_gR27_20, e_gR27_21, e_gR27_22, e_gR27_23, e_gR27_24, e_gR27_25, e_gR27_26, e_gR27_27, e_gR27_28, e_gR27_29, e_gR27_30, e_gR27_31, e_gR27_32, e_gR27_33, e_gR27_34, e_gR27_35, e_gR27_36, e_gR27_37, e_aI28, e_aS28, e_aI29, e_aS29, e_aI30, e_aS30, e_aI31, e_aS31, e_aI32, e_aS32, e_aI33, e_aS33, e_aI34, e_aS34, e_aI35, e_aS35, e_aI36, e_aS36, e_aI37, e_aS37, e_aI38, e_aS38, e_aI39, e_aS39, e_aI40, e_aS40, e_aI41, e_aS41, e_aI42, e_aS42, e_aI43, e_aS43, e_aI44, e_aS44, e_aI45, e_aS45, e_aI46, e_aS46, e_aI47, e_aS47, e_aI48, e_aS48, e_aI49, e_aS49, e_aI50, e_aS50, e_aI51, e_aS51, e_aI52, e_aS52, e_aI53, e_aS53, e_aI54, e_aS54, e_aI55, e_aS55, e_aI56, e_aS56, e_aI57, e_aS57, e_aI58, e_aS58, st, stA, stB, inb, and_self, if_true, if_false, i32_00, i32_10, i32_m40, i32_m60])
  · exact Opx.ref (c := -4) i 4 (by decide) (by simp only [f_H_weak, rf_4, HisStation_t _ s1 s2, Hout_4 _ w0, e_nm, e_bI, e_bR, e_bV, e_gI4, e_pI4, e_cV4, e_gR4_0, e_gR4_1, e_gR4_2, e_gR4_3, e_gR4_4, e_gR4_5, e_gR4_6, e_gR4_7, e_gR4_8, e_gR4_9, e_gR4_10, e_gR4_11, e_aI5, e_aS5, e_aI6, e_aS6, e_gI7, e_pI7, e_cV7, e_gR7, e_gI8, e_pI8, e_cV8, e_gR8, e_gI9, e_pI9, e_cV9, e_gR9, e_gI10, e_pI10, e_cV10, e_gR10, e_gI11, e_pI11, e_cV11, e_gR11_0, e_aI12, e_aS12, e_gI13, e_pI13, e_cV13, e_gR13_0, e_aI14, e_aS14, e_gI15, e_pI15, e_cV15, e_gI16, e_pI16, e_cV16, e_gR16_0, e_gR16_3, e_gR16_4, e_gR16_5, e_gR16_6, e_aI17, e_aS17, e_aI18, e_aS18, e_aI19, e_aS19, e_zI20, e_zS20, e_aI21, e_aS21, e_gI22, e_pI22, e_cV22, e_gR22_0, e_gR22_1, e_gR22_3, e_aI23, e_aS23, e_aI24, e_aS24, e_aI25, e_aS25, e_aI26, e_aS26, e_gI27, e_pI27, e_cV27, e_gR27_7, e_gR27_8, e_gR27_9, e_gR27_10, e_gR27_11, e_gR27_12, e_gR27_13, e_gR27_14, e_gR27_15, e_gR27_16, e_gR27_17, e_gR27_18, e_gR27_19, e_gR27_20, e_gR27_21, e_gR27_22, e_gR27_23, e_gR27_24, e_gR27_25, e_gR27_26, e_gR27_27, e_gR27_28, e_gR27_29, e_gR27_30, e_gR27_31, e_gR27_32, e_gR27_33, e_gR27_34, e_gR27_35, e_gR27_36, e_gR27_37, e_aI28, e_aS28, e_aI29, e_aS29, e_aI30, e_aS30, e_aI31, e_aS31, e_aI32, e_aS32, e_aI33, e_aS33, e_aI34, e_aS34, e_aI35, e_aS35, e_aI36, e_aS36, e_aI37, e_aS37, e_aI38, e_aS38, e_aI39, e_aS39, e_aI40, e_aS40, e_aI41, e_aS41, e_aI42, e_aS42, e_aI43, e_aS43, e_aI44, e_aS44, e_aI45, e_aS45, e_aI46, e_aS46, e_aI47, e_aS47, e_aI48, e_aS48, e_aI49, e_aS49, e_aI50, e_aS50, e_aI51, e_aS51, e_aI52, e_aS52, e_aI53, e_aS53, e_aI54, e_aS54, e_aI55, e_aS55, e_aI56, e_aS56, e_aI57, e_aS57, e_aI58, e_aS58, st, stA, stB, inb, and_self, if_true, if_false, i32_00, i32_10, i32_m40, i32_m60]) (by simp only [f_M_weak, no_4, MisStation_t _ s1 s2, w0, e_nm, e_bI, e_bR, e_bV, e_gI4, e_pI4, e_cV4, e_gR4_0, e_gR4_1, e_gR4_2, e_gR4_3, e_gR4_4, e_gR4_5, e_gR4_6, e_gR4_7, e_gR4_8, e_gR4_9, e_gR4_10, e_gR4_11, e_aI5, e_aS5, e_aI6, e_aS6, e_gI7, e_pI7, e_cV7, e_gR7, e_gI8, e_pI8, e_cV8, e_gR8, e_gI9, e_pI9, e_cV9, e_gR9, e_gI10, e_pI10, e_cV10, e_gR10, e_gI11, e_pI11, e_cV11, e_gR11_0, e_aI12, e_aS12, e_gI13, e_pI13, e_cV13, e_gR13_0, e_aI14, e_aS14, e_gI15, e_pI15, e_cV15, e_gI16, e_pI16, e_cV16, e_gR16_0, e_gR16_3, e_gR16_4, e_gR16_5, e_gR16_6, e_aI17, e_aS17, e_aI18, e_aS18, e_aI19, e_aS19, e_zI20, e_zS20, e_aI21, e_aS21, e_gI22, e_pI22, e_cV22, e_gR22_0, e_gR22_1, e_gR22_3, e_aI23, e_aS23, e_aI24, e_aS24, e_aI25, e_aS25, e_aI26, e_aS26, e_gI27, e_pI27, e_cV27, e_gR27_7, e_gR27_8, e_gR27_9, e_gR27_10, e_gR27_11, e_gR27_12, e_gR27_13, e_gR27_14, e_gR27_15, e_gR27_16, e_gR27_17, e_gR27_18, e_gR27_19, e_gR27_20, e_gR27_21, e_gR27_22, e_gR27_23, e_gR27_24, e_gR27_25, e_gR27_26, e_gR27_27, e_gR27_28, e_gR27_29, e_gR27_30, e_gR27_31, e_gR27_32, e_gR27_33, e_gR27_34, e_gR27_35, e_gR27_36, e_gR27_37, e_aI28, e_aS28, e_aI29, e_aS29, e_aI30, e_aS30, e_aI31, e_aS31, e_aI32, e_aS32, e_aI33, e_aS33, e_aI34, e_aS34, e_aI35, e_aS35, e_aI36, e_aS36, e_aI37, e_aS37, e_aI38, e_aS38, e_aI39, e_aS39, e_aI40, e_aS40, e_aI41, e_aS41, e_aI42, e_aS42, e_aI43, e_aS43, e_aI44, e_aS44, e_aI45, e_aS45, e_aI46, e_aS46, e_aI47, e_aS47, e_aI48, e_aS48, e_aI49, e_aS49, e_aI50, e_aS50, e_aI51, e_aS51, e_aI52, e_aS52, e_aI53, e_aS53, e_aI54, e_aS54, e_aI55, e_aS55, e_aI56, e_aS56, e_aI57, e_aS57, e_aI58, e_aS58, st, stA, stB, inb, and_self, if_true, if_false, i32_00, i32_10, i32_m40, i32_m60])
