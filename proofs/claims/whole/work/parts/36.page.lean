/-! page, personOf -/
theorem I_ppl.page {μ μ' : Mem} {P : Nat → Nat} {n p b : Nat} {x y : Int32} (hn : n ≤ 40) (h1 : gi μ 27 1 = nI n) (h2 : LST 7 P n μ) (h3 : ∀ p, p < n → PER P p μ) (h4 : ∀ p q, p < q → q < n → P p + 3 ≤ P q) (h5 : ∀ i, 8 * n ≤ i → i < 320 → gi μ 34 i = 0 ∧ gi μ 35 i = 0) (h6 : ∀ p, n ≤ p → p < 40 → gi μ 33 p = 0) (hp : p < n) (hb : b < 8)
    (fr : Fr (fun h k => (h = P p + 1 ∧ k = b) ∨ (h = P p + 2 ∧ k = b) ∨ (h = 34 ∧ k = 8 * p + b) ∨ (h = 35 ∧ k = 8 * p + b)) μ μ') (v1 : gi μ' (P p + 1) b = x) (v2 : gi μ' (P p + 2) b = y) (v3 : gi μ' 34 (8 * p + b) = x) (v4 : gi μ' 35 (8 * p + b) = y) (hx : rng x 0 200) (hy : rng y 0 x.toInt) : Fr (Sper μ) μ μ' ∧ I_ppl P μ' := by
  have pp := h3 p hp
  have a0 := pp.1
  have fr2 : Fr (Sper μ) μ μ' := fr.up (fun h k q => by
    rcases q with q | q | q | q
    · rw [q.1]; exact Or.inl ⟨by omega, Or.inr pp.2.2.1⟩
    · rw [q.1]; exact Or.inl ⟨by omega, Or.inr pp.2.2.2.1⟩
    · exact Or.inr (by omega)
    · exact Or.inr (by omega))
  refine ⟨fr2, n, hn, ?_, ?_, ?_, h4, ?_, ?_⟩
  · rw [fr.2 _ _ (by omega)]; exact h1
  · exact h2.fr fr (by omega)
  · intro q hq
    have aq := (h3 q hq).1
    by_cases e : q = p
    · subst e
      unfold PER at pp ⊢
      obtain ⟨i0, i1, i2, i3, i4, i5, i6, i7, i8, i9, i10, j1, j2, j3, j4, j5⟩ := pp
      rw [fr.1.2.1, fr.1.2.1, fr.1.2.1, fr.1.2.2, fr.1.2.2, fr.2 _ _ (by omega), fr.2 _ _ (by omega), fr.2 _ _ (by omega), fr.2 _ _ (by omega), fr.2 _ _ (by omega), fr.2 _ _ (by omega), fr.2 _ _ (by omega), fr.2 _ _ (by omega)]
      refine ⟨i0, i1, i2, i3, i4, i5, i6, i7, i8, i9, ?_, j1, j2, j3, j4, ?_⟩
      · intro c hc
        by_cases ec : c = b
        · subst ec; rw [v1, v2, v3, v4]; exact ⟨rfl, rfl⟩
        · rw [fr.2 _ _ (by omega), fr.2 _ _ (by omega), fr.2 _ _ (by omega), fr.2 _ _ (by omega)]; exact i10 c hc
      · intro c hc
        by_cases ec : c = b
        · subst ec; rw [v3, v4]; exact ⟨hx, hy⟩
        · rw [fr.2 _ _ (by omega), fr.2 _ _ (by omega)]; exact j5 c hc
    · have g := gap3 h4 hp hq e
      refine (h3 q hq).cg fr.1 ?_ ?_ ?_ ?_ ?_ ?_ ?_ ?_ ?_
      all_goals (intros; exact fr.2 _ _ (by omega))
  · intro i g1 g2
    rw [fr.2 _ _ (by omega), fr.2 _ _ (by omega)]
    exact h5 i g1 g2
  · intro q g1 g2
    rw [fr.2 _ _ (by omega)]
    exact h6 q g1 g2
theorem lt200 {x : Int32} (h : rng x 0 200) : x < 200 ↔ ¬ x = 200 := by
  rw [i32_lt, i32_eq, show (200 : Int32).toInt = 200 from rfl]
  have := h.2
  omega
theorem op_page {μ : Mem} (i : Inv μ) (x c : Int32) : Opx (f_H_page 4 x c) (f_M_page 27 x c) μ := by
  have st := i.1
  have stA : ∀ h k x, ST (si μ h k x) := fun _ _ _ => st
  have stB : ∀ h k x h' k' x', ST (si (si μ h k x) h' k' x') := fun _ _ _ _ _ _ => st
  have em := i.2.1.1
  obtain ⟨b, hb8, hbn⟩ := bnd_rng i.2.1.2.2.2.1
  obtain ⟨P, n, hn, h1, h2, h3, h4, h5, h6⟩ := i.2.2.2.2.2.2.2.1
  rcases ix (x := x) (n := n) (by omega) with hx | ⟨p, hp, rfl⟩
  · have m1 : f_M_isPerson 27 x (si μ 26 1 (gi μ 26 1 + 1)) = some (.inl 0, si μ 26 1 (gi μ 26 1 + 1)) := MisPerson_f (stA _ _ _) h1 hx
    exact Opx.ref (c := -1) i 1 (by decide) (by simp only [f_H_page, rf_1, HpersonAt_f st h2 hx, e_nm, e_bI, e_bR, e_bV, e_gI4, e_pI4, e_cV4, e_gR4_0, e_gR4_1, e_gR4_2, e_gR4_3, e_gR4_4, e_gR4_5, e_gR4_6, e_gR4_7, e_gR4_8, e_gR4_9, e_gR4_10, e_gR4_11, e_aI5, e_aS5, e_aI6, e_aS6, e_gI7, e_pI7, e_cV7, e_gR7, e_gI8, e_pI8, e_cV8, e_gR8, e_gI9, e_pI9, e_cV9, e_gR9, e_gI10, e_pI10, e_cV10, e_gR10, e_gI11, e_pI11, e_cV11, e_gR11_0, e_aI12, e_aS12, e_gI13, e_pI13, e_cV13, e_gR13_0, e_aI14, e_aS14, e_gI15, e_pI15, e_cV15, e_gI16, e_pI16, e_cV16, e_gR16_0, e_gR16_3, e_gR16_4, e_gR16_5, e_gR16_6, e_aI17, e_aS17, e_aI18, e_aS18, e_aI19, e_aS19, e_zI20, e_zS20, e_aI21, e_aS21, e_gI22, e_pI22, e_cV22, e_gR22_0, e_gR22_1, e_gR22_3, e_aI23, e_aS23, e_aI24, e_aS24, e_aI25, e_aS25, e_aI26, e_aS26, e_gI27, e_pI27, e_cV27, e_gR27_7, e_gR27_8, e_gR27_9, e_gR27_10, e_gR27_11, e_gR27_12, e_gR27_13, e_gR27_14, e_gR27_15, e_gR27_16, e_gR27_17, e_gR27_18, e_gR27_19, e_gR27_20, e_gR27_21, e_gR27_22, e_gR27_23, e_gR27_24, e_gR27_25, e_gR27_26, e_gR27_27, e_gR27_28, e_gR27_29, e_gR27_30, e_gR27_31, e_gR27_32, e_gR27_33, e_gR27_34, e_gR27_35, e_gR27_36, e_gR27_37, e_aI28, e_aS28, e_aI29, e_aS29, e_aI30, e_aS30, e_aI31, e_aS31, e_aI32, e_aS32, e_aI33, e_aS33, e_aI34, e_aS34, e_aI35, e_aS35, e_aI36, e_aS36, e_aI37, e_aS37, e_aI38, e_aS38, e_aI39, e_aS39, e_aI40, e_aS40, e_aI41, e_aS41, e_aI42, e_aS42, e_aI43, e_aS43, e_aI44, e_aS44, e_aI45, e_aS45, e_aI46, e_aS46, e_aI47, e_aS47, e_aI48, e_aS48, e_aI49, e_aS49, e_aI50, e_aS50, e_aI51, e_aS51, e_aI52, e_aS52, e_aI53, e_aS53, e_aI54, e_aS54, e_aI55, e_aS55, e_aI56, e_aS56, e_aI57, e_aS57, e_aI58, e_aS58, st, stA, stB, inb, and_self, if_true, if_false, i32_00, i32_10, i32_m40, i32_m60]) (by simp only [f_M_page, no_1, m1, e_nm, e_bI, e_bR, e_bV, e_gI4, e_pI4, e_cV4, e_gR4_0, e_gR4_1, e_gR4_2, e_gR4_3, e_gR4_4, e_gR4_5, e_gR4_6, e_gR4_7, e_gR4_8, e_gR4_9, e_gR4_10, e_gR4_11, e_aI5, e_aS5, e_aI6, e_aS6, e_gI7, e_pI7, e_cV7, e_gR7, e_gI8, e_pI8, e_cV8, e_gR8, e_gI9, e_pI9, e_cV9, e_gR9, e_gI10, e_pI10, e_cV10, e_gR10, e_gI11, e_pI11, e_cV11, e_gR11_0, e_aI12, e_aS12, e_gI13, e_pI13, e_cV13, e_gR13_0, e_aI14, e_aS14, e_gI15, e_pI15, e_cV15, e_gI16, e_pI16, e_cV16, e_gR16_0, e_gR16_3, e_gR16_4, e_gR16_5, e_gR16_6, e_aI17, e_aS17, e_aI18, e_aS18, e_aI19, e_aS19, e_zI20, e_zS20, e_aI21, e_aS21, e_gI22, e_pI22, e_cV22, e_gR22_0, e_gR22_1, e_gR22_3, e_aI23, e_aS23, e_aI24, e_aS24, e_aI25, e_aS25, e_aI26, e_aS26, e_gI27, e_pI27, e_cV27, e_gR27_7, e_gR27_8, e_gR27_9, e_gR27_10, e_gR27_11, e_gR27_12, e_gR27_13, e_gR27_14, e_gR27_15, e_gR27_16, e_gR27_17, e_gR27_18, e_gR27_19, e_gR27_20, e_gR27_21, e_gR27_22, e_gR27_23, e_gR27_24, e_gR27_25, e_gR27_26, e_gR27_27, e_gR27_28, e_gR27_29, e_gR27_30, e_gR27_31, e_gR27_32, e_gR27_33, e_gR27_34, e_gR27_35, e_gR27_36, e_gR27_37, e_aI28, e_aS28, e_aI29, e_aS29, e_aI30, e_aS30, e_aI31, e_aS31, e_aI32, e_aS32, e_aI33, e_aS33, e_aI34, e_aS34, e_aI35, e_aS35, e_aI36, e_aS36, e_aI37, e_aS37, e_aI38, e_aS38, e_aI39, e_aS39, e_aI40, e_aS40, e_aI41, e_aS41, e_aI42, e_aS42, e_aI43, e_aS43, e_aI44, e_aS44, e_aI45, e_aS45, e_aI46, e_aS46, e_aI47, e_aS47, e_aI48, e_aS48, e_aI49, e_aS49, e_aI50, e_aS50, e_aI51, e_aS51, e_aI52, e_aS52, e_aI53, e_aS53, e_aI54, e_aS54, e_aI55, e_aS55, e_aI56, e_aS56, e_aI57, e_aS57, e_aI58, e_aS58, st, stA, stB, inb, and_self, if_true, if_false, i32_00, i32_10, i32_m40, i32_m60])
  · have pp := h3 p hp
    have p59 := pp.1
    have hP : ¬ P p = 0 := by omega
    have hH := HpersonAt_t st h2 (by omega) hp pp.2.1
    have hc := cl_nI (p := p) (by omega)
    have hb : inb (nI p) 40 := inb_nI (by omega) (by omega)
    have hp40 : p < 40 := by omega
    have m0 : ∀ h k v, (h = 27 → k ≠ 1) → f_M_isPerson 27 (nI p) (si μ h k v) = some (.inl 1, si μ h k v) := fun h k v g => MisPerson_t (stA _ _ _) (by rw [gi_si, if_neg (fun q => g q.1.symm q.2.symm)]; exact h1) (by omega) hp
    have mR : ∀ k, f_M_isPerson 27 (nI p) (si μ 26 k (gi μ 26 k + 1)) = some (.inl 1, si μ 26 k (gi μ 26 k + 1)) := fun k => m0 26 k _ (by omega)
    have mm : f_M_isPerson 27 (nI p) μ = some (.inl 1, μ) := MisPerson_t st h1 (by omega) hp
    have hB : f_H_bandNow 4 μ = some (.inl (nI b), μ) := by rw [H_band st, em, hbn]
    have hM : ∀ ν : Mem, ST ν → gi ν 27 0 = gi μ 27 0 → f_M_band 27 ν = some (.inl (nI b), ν) := fun ν s g => by rw [M_band s, g, hbn]
    have ib : inb (nI b) 8 := inb_nI hb8 (by omega)
    have cb := cl_nI (p := b) (by omega)
    have ib8 : inb (nI (8 * p + b)) 320 := inb_nI (by omega) (by omega)
    have cb8 := cl_nI (p := 8 * p + b) (by omega)
    obtain ⟨i0, i1, i2, i3, i4, i5, i6, i7, i8, i9, i10, j1, j2, j3, j4, j5⟩ := id pp
    have jj := j5 b hb8
    have q1 := (i10 b hb8).1
    have q2 := (i10 b hb8).2
    by_cases c2 : gi μ 34 (8 * p + b) = 200
    · have c3 : ¬ gi μ 34 (8 * p + b) < 200 := fun q => (lt200 jj.1).mp q c2
      have e34 : gi (si μ 26 6 (gi μ 26 6 + 1)) 34 (8 * p + b) = gi μ 34 (8 * p + b) := rfl
      refine Opx.ref (c := -6) i 6 (by decide) ?_ ?_
      · unfold f_H_page
        rw [e_cV4 st, hH, e_bR, if_neg hP, e_cV4 st, hB, e_bI, gR_at i1, i4, aI_at i2 ib, cb, q1, if_neg c3, e_cV4 st, rf_6 st, e_bI]
      · have s1 := stA 26 6 (gi μ 26 6 + 1)
        unfold f_M_page
        rw [e_cV27 s1, mR 6, e_bI, if_neg (by decide), e_cV27 s1, hM _ s1 rfl, e_bI, e_nm, nI_8, e_gR27_13 s1, e_aI34 s1 ib8, cb8, e34, if_pos c2, e_cV27 s1, no_6 s1, e_bI]
    · have c3 : gi μ 34 (8 * p + b) < 200 := (lt200 jj.1).mpr c2
      have hx' : rng (gi μ 34 (8 * p + b) + 1) 0 200 := by
        rw [i32_lt, show (200 : Int32).toInt = 200 from rfl] at c3
        have q := jj.1.1
        unfold rng
        rw [add_ti (by simp; omega) (by simp; omega)]
        simp; omega
      have hx'' : (gi μ 34 (8 * p + b) + 1).toInt = (gi μ 34 (8 * p + b)).toInt + 1 := by
        have q := jj.1
        rw [add_ti (by simp; omega) (by simp; omega)]; rfl
      by_cases c0 : c = 0
      · refine ⟨gi μ 34 (8 * p + b) + 1, si μ (P p + 1) b (gi μ 34 (8 * p + b) + 1), si (si μ (P p + 1) b (gi μ 34 (8 * p + b) + 1)) 34 (8 * p + b) (gi μ 34 (8 * p + b) + 1), ?_, st, ?_, ?_⟩
        · have f1 : shp (si μ (P p + 1) b (gi μ 34 (8 * p + b) + 1)) (P p) = (6 + 3, 0) := i1
          have f2 : shp (si μ (P p + 1) b (gi μ 34 (8 * p + b) + 1)) (P p + 1) = (0, 8) := i2
          have f4 : gr (si μ (P p + 1) b (gi μ 34 (8 * p + b) + 1)) (P p) 2 = P p + 1 := i4
          unfold f_H_page b_H_page_68
          rw [e_cV4 st, hH, e_bR, if_neg hP, e_cV4 st, hB, e_bI, gR_at i1, i4, aI_at i2 ib, cb, q1, if_pos c3, gR_at i1, i4, aI_at i2 ib, cb, q1, aS_at i2 ib, cb, if_pos c0, gR_at f1, f4, aI_at f2 ib, cb, gi_eq]
        · have s1 := stA (P p + 1) b (gi μ 34 (8 * p + b) + 1)
          have s2 := stB (P p + 1) b (gi μ 34 (8 * p + b) + 1) 34 (8 * p + b) (gi μ 34 (8 * p + b) + 1)
          have e34 : gi (si μ (P p + 1) b (gi μ 34 (8 * p + b) + 1)) 34 (8 * p + b) = gi μ 34 (8 * p + b) := gi_ne (by omega)
          unfold f_M_page b_M_page_67
          rw [e_cV27 s1, m0 (P p + 1) b _ (by omega), e_bI, if_neg (by decide), e_cV27 s1, hM _ s1 (gi_ne (by omega)), e_bI, e_nm, nI_8, e_gR27_13 s1, e_aI34 s1 ib8, cb8, e34, if_neg c2, e_gR27_13 s1, e_aI34 s1 ib8, cb8, e34, e_aS34 s1 ib8, cb8, if_pos c0, e_gR27_13 s2, e_aI34 s2 ib8, cb8, gi_eq]
        · have fr : Fr (fun h k => (h = P p + 1 ∧ k = b) ∨ (h = P p + 2 ∧ k = b) ∨ (h = 34 ∧ k = 8 * p + b) ∨ (h = 35 ∧ k = 8 * p + b)) μ (si (si μ (P p + 1) b (gi μ 34 (8 * p + b) + 1)) 34 (8 * p + b) (gi μ 34 (8 * p + b) + 1)) := (Fr.si (Or.inl ⟨rfl, rfl⟩)).tr (Fr.si (Or.inr (Or.inr (Or.inl ⟨rfl, rfl⟩))))
          obtain ⟨g1, g2⟩ := I_ppl.page (y := gi μ 35 (8 * p + b)) hn h1 h2 h3 h4 h5 h6 hp hb8 fr (by rw [gi_ne (by omega), gi_eq]) (by rw [gi_ne (by omega), gi_ne (by omega)]; exact q2) (by rw [gi_eq]) (by rw [gi_ne (by omega), gi_ne (by omega)]) hx' ⟨jj.2.1, by rw [hx'']; have := jj.2.2; omega⟩
          exact i.person g1 ⟨P, g2⟩
      · have hy' : (gi μ 35 (8 * p + b) + 1).toInt = (gi μ 35 (8 * p + b)).toInt + 1 := by
          have q := jj.1
          have q' := jj.2
          rw [add_ti (by simp; omega) (by simp; omega)]; rfl
        refine ⟨gi μ 34 (8 * p + b) + 1, si (si μ (P p + 1) b (gi μ 34 (8 * p + b) + 1)) (P p + 2) b (gi μ 35 (8 * p + b) + 1), si (si (si (si μ (P p + 1) b (gi μ 34 (8 * p + b) + 1)) (P p + 2) b (gi μ 35 (8 * p + b) + 1)) 34 (8 * p + b) (gi μ 34 (8 * p + b) + 1)) 35 (8 * p + b) (gi μ 35 (8 * p + b) + 1), ?_, st, ?_, ?_⟩
        · have f1 : shp (si μ (P p + 1) b (gi μ 34 (8 * p + b) + 1)) (P p) = (6 + 3, 0) := i1
          have f3 : shp (si μ (P p + 1) b (gi μ 34 (8 * p + b) + 1)) (P p + 2) = (0, 8) := i3
          have f5 : gr (si μ (P p + 1) b (gi μ 34 (8 * p + b) + 1)) (P p) 3 = P p + 2 := i5
          have f6 : gi (si μ (P p + 1) b (gi μ 34 (8 * p + b) + 1)) (P p + 2) b = gi μ 35 (8 * p + b) := by rw [gi_ne (by omega)]; exact q2
          have k1 : shp (si (si μ (P p + 1) b (gi μ 34 (8 * p + b) + 1)) (P p + 2) b (gi μ 35 (8 * p + b) + 1)) (P p) = (6 + 3, 0) := i1
          have k2 : shp (si (si μ (P p + 1) b (gi μ 34 (8 * p + b) + 1)) (P p + 2) b (gi μ 35 (8 * p + b) + 1)) (P p + 1) = (0, 8) := i2
          have k4 : gr (si (si μ (P p + 1) b (gi μ 34 (8 * p + b) + 1)) (P p + 2) b (gi μ 35 (8 * p + b) + 1)) (P p) 2 = P p + 1 := i4
          unfold f_H_page b_H_page_68
          rw [e_cV4 st, hH, e_bR, if_neg hP, e_cV4 st, hB, e_bI, gR_at i1, i4, aI_at i2 ib, cb, q1, if_pos c3, gR_at i1, i4, aI_at i2 ib, cb, q1, aS_at i2 ib, cb, if_neg c0, gR_at f1, f5, aI_at f3 ib, cb, f6, aS_at f3 ib, cb, gR_at k1, k4, aI_at k2 ib, cb, gi_ne (by omega), gi_eq]
        · have s1 := stB (P p + 1) b (gi μ 34 (8 * p + b) + 1) (P p + 2) b (gi μ 35 (8 * p + b) + 1)
          generalize hν : si (si μ (P p + 1) b (gi μ 34 (8 * p + b) + 1)) (P p + 2) b (gi μ 35 (8 * p + b) + 1) = ν at s1 ⊢
          have e1 : gi ν 27 1 = nI n := by rw [← hν, gi_ne (by omega), gi_ne (by omega)]; exact h1
          have e0 : gi ν 27 0 = gi μ 27 0 := by rw [← hν, gi_ne (by omega), gi_ne (by omega)]
          have e34 : gi ν 34 (8 * p + b) = gi μ 34 (8 * p + b) := by rw [← hν, gi_ne (by omega), gi_ne (by omega)]
          have e35 : gi ν 35 (8 * p + b) = gi μ 35 (8 * p + b) := by rw [← hν, gi_ne (by omega), gi_ne (by omega)]
          have s2 : ST (si ν 34 (8 * p + b) (gi μ 34 (8 * p + b) + 1)) := s1
          have s3 : ST (si (si ν 34 (8 * p + b) (gi μ 34 (8 * p + b) + 1)) 35 (8 * p + b) (gi μ 35 (8 * p + b) + 1)) := s1
          have e35' : gi (si ν 34 (8 * p + b) (gi μ 34 (8 * p + b) + 1)) 35 (8 * p + b) = gi μ 35 (8 * p + b) := by rw [gi_ne (by omega)]; exact e35
          unfold f_M_page b_M_page_67
          rw [e_cV27 s1, MisPerson_t s1 e1 (by omega) hp, e_bI, if_neg (by decide), e_cV27 s1, hM _ s1 e0, e_bI, e_nm, nI_8, e_gR27_13 s1, e_aI34 s1 ib8, cb8, e34, if_neg c2, e_gR27_13 s1, e_aI34 s1 ib8, cb8, e34, e_aS34 s1 ib8, cb8, if_neg c0, e_gR27_14 s2, e_aI35 s2 ib8, cb8, e35', e_aS35 s2 ib8, cb8, e_gR27_13 s3, e_aI34 s3 ib8, cb8, gi_ne (by omega), gi_eq]
        · have fr : Fr (fun h k => (h = P p + 1 ∧ k = b) ∨ (h = P p + 2 ∧ k = b) ∨ (h = 34 ∧ k = 8 * p + b) ∨ (h = 35 ∧ k = 8 * p + b)) μ (si (si (si (si μ (P p + 1) b (gi μ 34 (8 * p + b) + 1)) (P p + 2) b (gi μ 35 (8 * p + b) + 1)) 34 (8 * p + b) (gi μ 34 (8 * p + b) + 1)) 35 (8 * p + b) (gi μ 35 (8 * p + b) + 1)) := (((Fr.si (Or.inl ⟨rfl, rfl⟩)).tr (Fr.si (Or.inr (Or.inl ⟨rfl, rfl⟩)))).tr (Fr.si (Or.inr (Or.inr (Or.inl ⟨rfl, rfl⟩))))).tr (Fr.si (Or.inr (Or.inr (Or.inr ⟨rfl, rfl⟩))))
          obtain ⟨g1, g2⟩ := I_ppl.page (y := gi μ 35 (8 * p + b) + 1) hn h1 h2 h3 h4 h5 h6 hp hb8 fr (by rw [gi_ne (by omega), gi_ne (by omega), gi_ne (by omega), gi_eq]) (by rw [gi_ne (by omega), gi_ne (by omega), gi_eq]) (by rw [gi_ne (by omega), gi_eq]) (by rw [gi_eq]) hx' ⟨by rw [hy']; have := jj.2.1; omega, by rw [hx'', hy']; have := jj.2.2; omega⟩
          exact i.person g1 ⟨P, g2⟩
