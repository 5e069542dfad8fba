/-! turn -/
/-- how many of the first ones are ahead of p -/
def ahd (s g : Nat → Int32) (p : Nat) : Nat → Int32
  | 0 => 0
  | k + 1 => if s k = s p then (if g k < g p then ahd s g p k + 1 else if g k = g p then (if p ≤ k then ahd s g p k else ahd s g p k + 1) else ahd s g p k) else ahd s g p k
theorem ahd_s (s g : Nat → Int32) (p k : Nat) : ahd s g p (k + 1) = if s k = s p then (if g k < g p then ahd s g p k + 1 else if g k = g p then (if p ≤ k then ahd s g p k else ahd s g p k + 1) else ahd s g p k) else ahd s g p k := rfl
def trn (s g : Nat → Int32) (n : Nat) (a i : Int32) : Nat → Nat → Int32
  | 0, _ => -9
  | r + 1, k => if s k = a then (if ahd s g k n = i then nI k else trn s g n a i r (k + 1)) else trn s g n a i r (k + 1)
theorem trn_s (s g : Nat → Int32) (n : Nat) (a i : Int32) (r k : Nat) : trn s g n a i (r + 1) k = if s k = a then (if ahd s g k n = i then nI k else trn s g n a i r (k + 1)) else trn s g n a i r (k + 1) := rfl
section TU
variable {μ : Mem} {P : Nat → Nat} {n : Nat}
theorem H_place_loop (st : ST μ) (hn : n ≤ 40) (h2 : LST 7 P n μ) (h3 : ∀ p, p < n → PER P p μ) {p : Nat} (hp : p < n) : ∀ f k, k ≤ n → n - k < f → k_H_placeInTurn_17 4 (nI p) (P p) f (ahd (gi μ 30) (gi μ 32) p k) (nI k) μ = some (.inl (ahd (gi μ 30) (gi μ 32) p n), μ)
  | 0, k, _, h => by omega
  | f + 1, k, hk, h => by
    have pp := h3 p hp
    simp only [k_H_placeInTurn_17]
    rw [e_gR4_2 st, e_cV7 st, AL_size (st_h7 st), e_bI, h2.1]
    by_cases c : k = n
    · subst c
      rw [if_pos (nI_le (Nat.le_refl _) (by omega))]
    · have ih := H_place_loop st hn h2 h3 hp f (k + 1) (by omega) (by omega)
      have pk := h3 k (by omega)
      rw [if_neg (nI_ge (by omega) (by omega)), e_gR4_2 st, e_cV7 st, AL_get (st_h7 st) h2 (by omega) (by omega : k < n), e_bR]
      unfold cC
      rw [if_pos (Or.inr pk.2.1), gI_at pk.2.1, gI_at pp.2.1, gI_at pk.2.1, gI_at pp.2.1, gI_at pk.2.1, gI_at pp.2.1, pk.2.2.2.2.2.2.1, pp.2.2.2.2.2.2.1, pk.2.2.2.2.2.2.2.2.1, pp.2.2.2.2.2.2.2.2.1]
      rw [← nI_1 k, ahd_s] at ih
      by_cases a : gi μ 30 k = gi μ 30 p
      · rw [if_pos a] at ih ⊢
        by_cases b : gi μ 32 k < gi μ 32 p
        · rw [if_pos b] at ih ⊢
          exact ih
        · rw [if_neg b] at ih ⊢
          by_cases d : gi μ 32 k = gi μ 32 p
          · rw [if_pos d] at ih ⊢
            by_cases e : p ≤ k
            · rw [if_pos e] at ih
              rw [if_pos (nI_le e (by omega))]
              exact ih
            · rw [if_neg e] at ih
              rw [if_neg (nI_ge (by omega) (by omega))]
              exact ih
          · rw [if_neg d] at ih ⊢
            exact ih
      · rw [if_neg a] at ih ⊢
        exact ih
theorem H_place (st : ST μ) (hn : n ≤ 40) (h2 : LST 7 P n μ) (h3 : ∀ p, p < n → PER P p μ) {p : Nat} (hp : p < n) : f_H_placeInTurn 4 (nI p) μ = some (.inl (ahd (gi μ 30) (gi μ 32) p n), μ) := by
  unfold f_H_placeInTurn
  rw [e_gR4_2 st, e_cV7 st, AL_get (st_h7 st) h2 (by omega) hp, e_bR]
  unfold cC
  rw [if_pos (Or.inr (h3 p hp).2.1)]
  exact H_place_loop st hn h2 h3 hp 120000 0 (by omega) (by omega)
theorem H_turn_loop (st : ST μ) (hn : n ≤ 40) (h2 : LST 7 P n μ) (h3 : ∀ p, p < n → PER P p μ) (a i : Int32) : ∀ f r k, k + r = n → r < f → k_H_turn_15 4 a i f (nI k) μ = some (.inl (trn (gi μ 30) (gi μ 32) n a i r k), μ)
  | 0, r, k, _, h => by omega
  | f + 1, 0, k, e, h => by
    have ek : k = n := by omega
    subst ek
    simp only [k_H_turn_15]
    rw [e_gR4_2 st, e_cV7 st, AL_size (st_h7 st), e_bI, h2.1, if_pos (nI_le (Nat.le_refl _) (by omega))]
    rfl
  | f + 1, r + 1, k, e, h => by
    have ih := H_turn_loop st hn h2 h3 a i f r (k + 1) (by omega) (by omega)
    have pk := h3 k (by omega)
    simp only [k_H_turn_15]
    rw [e_gR4_2 st, e_cV7 st, AL_size (st_h7 st), e_bI, h2.1, if_neg (nI_ge (by omega) (by omega)), e_gR4_2 st, e_cV7 st, AL_get (st_h7 st) h2 (by omega) (by omega : k < n), e_bR]
    unfold cC
    rw [if_pos (Or.inr pk.2.1), gI_at pk.2.1, pk.2.2.2.2.2.2.1, trn_s]
    rw [← nI_1 k] at ih
    by_cases b : gi μ 30 k = a
    · rw [if_pos b, if_pos b, e_cV4 st, H_place st hn h2 h3 (by omega : k < n), e_bI]
      by_cases d : ahd (gi μ 30) (gi μ 32) k n = i
      · rw [if_pos d, if_pos d]
      · rw [if_neg d, if_neg d]
        exact ih
    · rw [if_neg b, if_neg b]
      exact ih
theorem M_place_loop (st : ST μ) (hn : n ≤ 40) (h1 : gi μ 27 1 = nI n) {p : Nat} (hp : p < n) (a i : Int32) (ha : gi μ 30 p = a) (K : Int32 → Int32 → Mem → Option (LV × Mem)) : ∀ f k, k ≤ n → n - k < f → k_M_turn_42 K 27 a i (nI p) f (ahd (gi μ 30) (gi μ 32) p k) (nI k) μ = K (nI p) (ahd (gi μ 30) (gi μ 32) p n) μ
  | 0, k, _, h => by omega
  | f + 1, k, hk, h => by
    simp only [k_M_turn_42]
    rw [e_gI27 st, h1]
    by_cases c : k = n
    · subst c
      rw [if_pos (nI_le (Nat.le_refl _) (by omega))]
    · have ih := M_place_loop st hn h1 hp a i ha K f (k + 1) (by omega) (by omega)
      have ik : inb (nI k) 40 := inb_nI (by omega) (by omega)
      have ip : inb (nI p) 40 := inb_nI (by omega) (by omega)
      rw [if_neg (nI_ge (by omega) (by omega)), e_gR27_9 st, e_aI30 st ik, e_gR27_11 st, e_aI32 st ik, e_gR27_11 st, e_aI32 st ip, e_gR27_11 st, e_aI32 st ik, e_gR27_11 st, e_aI32 st ip, cl_nI (by omega), cl_nI (by omega)]
      rw [← nI_1 k, ahd_s, ha] at ih
      by_cases a : gi μ 30 k = a
      · rw [if_pos a] at ih ⊢
        by_cases b : gi μ 32 k < gi μ 32 p
        · rw [if_pos b] at ih ⊢
          exact ih
        · rw [if_neg b] at ih ⊢
          by_cases d : gi μ 32 k = gi μ 32 p
          · rw [if_pos d] at ih ⊢
            by_cases e : p ≤ k
            · rw [if_pos e] at ih
              rw [if_pos (nI_le e (by omega))]
              exact ih
            · rw [if_neg e] at ih
              rw [if_neg (nI_ge (by omega) (by omega))]
              exact ih
          · rw [if_neg d] at ih ⊢
            exact ih
      · rw [if_neg a] at ih ⊢
        exact ih
theorem M_turn_loop (st : ST μ) (hn : n ≤ 40) (h1 : gi μ 27 1 = nI n) (a i : Int32) : ∀ f r k, k + r = n → r < f → k_M_turn_15 27 a i f (nI k) μ = some (.inl (trn (gi μ 30) (gi μ 32) n a i r k), μ)
  | 0, r, k, _, h => by omega
  | f + 1, 0, k, e, h => by
    have ek : k = n := by omega
    subst ek
    simp only [k_M_turn_15]
    rw [e_gI27 st, h1, if_pos (nI_le (Nat.le_refl _) (by omega))]
    rfl
  | f + 1, r + 1, k, e, h => by
    have ih := M_turn_loop st hn h1 a i f r (k + 1) (by omega) (by omega)
    have ik : inb (nI k) 40 := inb_nI (by omega) (by omega)
    simp only [k_M_turn_15]
    rw [e_gI27 st, h1, if_neg (nI_ge (by omega) (by omega)), e_gR27_9 st, e_aI30 st ik, cl_nI (by omega), trn_s]
    rw [← nI_1 k] at ih
    by_cases b : gi μ 30 k = a
    · rw [if_pos b, if_pos b]
      refine Eq.trans (M_place_loop st hn h1 (by omega : k < n) a i b (fun b3 b4 m_ => b_M_turn_109 (k_M_turn_15 27 a i f) 27 a i b3 b4 m_) 120000 0 (by omega) (by omega)) ?_
      show b_M_turn_109 _ _ _ _ _ _ _ = _
      unfold b_M_turn_109
      by_cases d : ahd (gi μ 30) (gi μ 32) k n = i
      · rw [if_pos d, if_pos d]
      · rw [if_neg d, if_neg d]
        exact ih
    · rw [if_neg b, if_neg b]
      exact ih
end TU
theorem op_turn {μ : Mem} (i : Inv μ) (a j : Int32) : Opx (f_H_turn 4 a j) (f_M_turn 27 a j) μ := by
  have st := i.1
  have stA : ∀ h k x, ST (si μ h k x) := fun _ _ _ => st
  have stB : ∀ h k x h' k' x', ST (si (si μ h k x) h' k' x') := fun _ _ _ _ _ _ => st
  obtain ⟨P, n, hn, p1, p2, p3, -⟩ := i.2.2.2.2.2.2.2.1
  by_cases h0 : a < 0 ∨ 6 ≤ a
  · exact Opx.ref (c := -1) i 1 (by decide) (by simp only [f_H_turn, rf_1, HisStation_f _ h0, e_nm, e_bI, e_bR, e_bV, e_gI4, e_pI4, e_cV4, e_gR4_0, e_gR4_1, e_gR4_2, e_gR4_3, e_gR4_4, e_gR4_5, e_gR4_6, e_gR4_7, e_gR4_8, e_gR4_9, e_gR4_10, e_gR4_11, e_aI5, e_aS5, e_aI6, e_aS6, e_gI7, e_pI7, e_cV7, e_gR7, e_gI8, e_pI8, e_cV8, e_gR8, e_gI9, e_pI9, e_cV9, e_gR9, e_gI10, e_pI10, e_cV10, e_gR10, e_gI11, e_pI11, e_cV11, e_gR11_0, e_aI12, e_aS12, e_gI13, e_pI13, e_cV13, e_gR13_0, e_aI14, e_aS14, e_gI15, e_pI15, e_cV15, e_gI16, e_pI16, e_cV16, e_gR16_0, e_gR16_3, e_gR16_4, e_gR16_5, e_gR16_6, e_aI17, e_aS17, e_aI18, e_aS18, e_aI19, e_aS19, e_zI20, e_zS20, e_aI21, e_aS21, e_gI22, e_pI22, e_cV22, e_gR22_0, e_gR22_1, e_gR22_3, e_aI23, e_aS23, e_aI24, e_aS24, e_aI25, e_aS25, e_aI26, e_aS26, e_gI27, e_pI27, e_cV27, e_gR27_7, e_gR27_8, e_gR27_9, e_gR27_10, e_gR27_11, e_gR27_12, e_gR27_13, e_gR27_14, e_gR27_15, e_gR27_16, e_gR27_17, e_gR27_18, e_gR27_19, e_gR27_20, e_gR27_21, e_gR27_22, e_gR27_23, e_gR27_24, e_gR27_25, e_gR27_26, e_gR27_27, e_gR27_28, e_gR27_29, e_gR27_30, e_gR27_31, e_gR27_32, e_gR27_33, e_gR27_34, e_gR27_35, e_gR27_36, e_gR27_37, e_aI28, e_aS28, e_aI29, e_aS29, e_aI30, e_aS30, e_aI31, e_aS31, e_aI32, e_aS32, e_aI33, e_aS33, e_aI34, e_aS34, e_aI35, e_aS35, e_aI36, e_aS36, e_aI37, e_aS37, e_aI38, e_aS38, e_aI39, e_aS39, e_aI40, e_aS40, e_aI41, e_aS41, e_aI42, e_aS42, e_aI43, e_aS43, e_aI44, e_aS44, e_aI45, e_aS45, e_aI46, e_aS46, e_aI47, e_aS47, e_aI48, e_aS48, e_aI49, e_aS49, e_aI50, e_aS50, e_aI51, e_aS51, e_aI52, e_aS52, e_aI53, e_aS53, e_aI54, e_aS54, e_aI55, e_aS55, e_aI56, e_aS56, e_aI57, e_aS57, e_aI58, e_aS58, st, stA, stB, inb, and_self, if_true, if_false, i32_00, i32_10, i32_m40, i32_m60]) (by simp only [f_M_turn, no_1, MisStation_f _ h0, e_nm, e_bI, e_bR, e_bV, e_gI4, e_pI4, e_cV4, e_gR4_0, e_gR4_1, e_gR4_2, e_gR4_3, e_gR4_4, e_gR4_5, e_gR4_6, e_gR4_7, e_gR4_8, e_gR4_9, e_gR4_10, e_gR4_11, e_aI5, e_aS5, e_aI6, e_aS6, e_gI7, e_pI7, e_cV7, e_gR7, e_gI8, e_pI8, e_cV8, e_gR8, e_gI9, e_pI9, e_cV9, e_gR9, e_gI10, e_pI10, e_cV10, e_gR10, e_gI11, e_pI11, e_cV11, e_gR11_0, e_aI12, e_aS12, e_gI13, e_pI13, e_cV13, e_gR13_0, e_aI14, e_aS14, e_gI15, e_pI15, e_cV15, e_gI16, e_pI16, e_cV16, e_gR16_0, e_gR16_3, e_gR16_4, e_gR16_5, e_gR16_6, e_aI17, e_aS17, e_aI18, e_aS18, e_aI19, e_aS19, e_zI20, e_zS20, e_aI21, e_aS21, e_gI22, e_pI22, e_cV22, e_gR22_0, e_gR22_1, e_gR22_3, e_aI23, e_aS23, e_aI24, e_aS24, e_aI25, e_aS25, e_aI26, e_aS26, e_gI27, e_pI27, e_cV27, e_gR27_7, e_gR27_8, e_gR27_9, e_gR27_10, e_gR27_11, e_gR27_12, e_gR27_13, e_gR27_14, e_gR27_15, e_gR27_16, e_gR27_17, e_gR27_18, e_gR27_19, e_gR27_20, e_gR27_21, e_gR27_22, e_gR27_23, e_gR27_24, e_gR27_25, e_gR27_26, e_gR27_27, e_gR27_28, e_gR27_29, e_gR27_30, e_gR27_31, e_gR27_32, e_gR27_33, e_gR27_34, e_gR27_35, e_gR27_36, e_gR27_37, e_aI28, e_aS28, e_aI29, e_aS29, e_aI30, e_aS30, e_aI31, e_aS31, e_aI32, e_aS32, e_aI33, e_aS33, e_aI34, e_aS34, e_aI35, e_aS35, e_aI36, e_aS36, e_aI37, e_aS37, e_aI38, e_aS38, e_aI39, e_aS39, e_aI40, e_aS40, e_aI41, e_aS41, e_aI42, e_aS42, e_aI43, e_aS43, e_aI44, e_aS44, e_aI45, e_aS45, e_aI46, e_aS46, e_aI47, e_aS47, e_aI48, e_aS48, e_aI49, e_aS49, e_aI50, e_aS50, e_aI51, e_aS51, e_aI52, e_aS52, e_aI53, e_aS53, e_aI54, e_aS54, e_aI55, e_aS55, e_aI56, e_aS56, e_aI57, e_aS57, e_aI58, e_aS58, st, stA, stB, inb, and_self, if_true, if_false, i32_00, i32_10, i32_m40, i32_m60])
  · have h1 : ¬ a < 0 := fun q => h0 (Or.inl q)
    have h2 : ¬ 6 ≤ a := fun q => h0 (Or.inr q)
    refine Opx.rd (trn (gi μ 30) (gi μ 32) n a j n 0) i ?_ ?_
    · unfold f_H_turn
      rw [HisStation_t _ h1 h2, e_bI, if_neg (by decide)]
      exact H_turn_loop st hn p2 p3 a j 120000 n 0 (by omega) (by omega)
    · unfold f_M_turn
      rw [MisStation_t _ h1 h2, e_bI, if_neg (by decide)]
      exact M_turn_loop st hn p1 a j 120000 n 0 (by omega) (by omega)
