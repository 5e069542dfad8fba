/-! boats that are ready or away; covered, count -/
/-- how many of the first k boats are at s and not away -/
def rdc (at_ aw : Nat → Int32) (m s : Int32) : Nat → Int32
  | 0 => 0
  | k + 1 => if at_ k = s then (if aw k ≤ m then rdc at_ aw m s k + 1 else rdc at_ aw m s k) else rdc at_ aw m s k
def awc (aw : Nat → Int32) (m : Int32) : Nat → Int32
  | 0 => 0
  | k + 1 => if aw k ≤ m then awc aw m k else awc aw m k + 1
theorem rdc_rng (at_ aw : Nat → Int32) (m s : Int32) : ∀ k, k ≤ 8 → rng (rdc at_ aw m s k) 0 k
  | 0, _ => by unfold rng rdc; decide
  | k + 1, h => by
    have ih := rdc_rng at_ aw m s k (by omega)
    have e : (rdc at_ aw m s k + 1).toInt = (rdc at_ aw m s k).toInt + 1 := by rw [add_ti (by have := ih.1; simp; omega) (by have := ih.2; simp; omega)]; rfl
    unfold rng at *
    simp only [rdc]
    split
    · split
      · rw [e]; omega
      · omega
    · omega
theorem M_isAway {μ : Mem} {b : Nat} (st : ST μ) (hb : b < 8) : f_M_isAway 27 (nI b) μ = some (.inl (if gi μ 39 b ≤ gi μ 27 0 then 0 else 1), μ) := by
  unfold f_M_isAway
  rw [e_gI27 st, e_gR27_18 st, e_aI39 st (inb_nI hb (by omega)), cl_nI (by omega)]
  split <;> rfl
theorem B_isAway {μ : Mem} {B : Nat → Nat} {b : Nat} (bb : BOA B b μ) (m : Int32) : f_B_isAway (B b) m μ = some (.inl (if gi μ 39 b ≤ m then 0 else 1), μ) := by
  unfold f_B_isAway
  rw [gI_at bb.2.1, bb.2.2.2.2.2.2.1]
  split <;> rfl
theorem M_stand_loop {μ : Mem} (st : ST μ) {n : Nat} (hn : n ≤ 8) (h1 : gi μ 27 2 = nI n) (s : Int32) : ∀ f k, k ≤ n → n - k < f → k_M_standing_4 27 s f (rdc (gi μ 37) (gi μ 39) (gi μ 27 0) s k) (nI k) μ = some (.inl (rdc (gi μ 37) (gi μ 39) (gi μ 27 0) s n), μ)
  | 0, k, _, h => by omega
  | f + 1, k, hk, h => by
    simp only [k_M_standing_4]
    rw [e_gI27 st, h1]
    by_cases c : k = n
    · subst c
      rw [if_pos (nI_le (Nat.le_refl _) (by omega))]
    · have ih := M_stand_loop st hn h1 s f (k + 1) (by omega) (by omega)
      rw [if_neg (nI_ge (by omega) (by omega)), e_gR27_16 st, e_aI37 st (inb_nI (by omega) (by omega)), cl_nI (by omega)]
      rw [← nI_1 k] at ih
      simp only [rdc] at ih
      by_cases e : gi μ 37 k = s
      · rw [if_pos e, e_cV27 st, M_isAway st (by omega), e_bI]
        rw [if_pos e] at ih
        by_cases d : gi μ 39 k ≤ gi μ 27 0
        · rw [if_pos d] at ih
          rw [if_pos d, if_pos rfl]
          exact ih
        · rw [if_neg d] at ih
          rw [if_neg d, if_neg (by decide)]
          exact ih
      · rw [if_neg e] at ih
        rw [if_neg e]
        exact ih
theorem M_standing {μ : Mem} (st : ST μ) {n : Nat} (hn : n ≤ 8) (h1 : gi μ 27 2 = nI n) (s : Int32) : f_M_standing 27 s μ = some (.inl (rdc (gi μ 37) (gi μ 39) (gi μ 27 0) s n), μ) := M_stand_loop st hn h1 s 120000 0 (by omega) (by omega)
theorem H_ready_loop {μ : Mem} (st : ST μ) {B : Nat → Nat} {n : Nat} (hn : n ≤ 8) (h2 : LST 8 B n μ) (h3 : ∀ b, b < n → BOA B b μ) (em : gi μ 4 12 = gi μ 27 0) (s : Int32) : ∀ f k, k ≤ n → n - k < f → k_H_boatsReadyAt_4 4 s f (rdc (gi μ 37) (gi μ 39) (gi μ 27 0) s k) (nI k) μ = some (.inl (rdc (gi μ 37) (gi μ 39) (gi μ 27 0) s n), μ)
  | 0, k, _, h => by omega
  | f + 1, k, hk, h => by
    simp only [k_H_boatsReadyAt_4]
    rw [e_gR4_3 st, e_cV8 st, AL_size (st_h8 st), e_bI, h2.1]
    by_cases c : k = n
    · subst c
      rw [if_pos (nI_le (Nat.le_refl _) (by omega))]
    · have ih := H_ready_loop st hn h2 h3 em s f (k + 1) (by omega) (by omega)
      have bb := h3 k (by omega)
      rw [if_neg (nI_ge (by omega) (by omega)), e_gR4_3 st, e_cV8 st, AL_get (st_h8 st) h2 (by omega) (by omega : k < n), e_bR]
      unfold cC
      rw [if_pos (Or.inr bb.2.1), gI_at bb.2.1, bb.2.2.2.2.2.1]
      rw [← nI_1 k] at ih
      simp only [rdc] at ih
      by_cases e : gi μ 37 k = s
      · rw [if_pos e, e_gI4 st, em, cV_at bb.2.1, B_isAway bb, e_bI]
        rw [if_pos e] at ih
        by_cases d : gi μ 39 k ≤ gi μ 27 0
        · rw [if_pos d] at ih
          rw [if_pos d, if_pos rfl]
          exact ih
        · rw [if_neg d] at ih
          rw [if_neg d, if_neg (by decide)]
          exact ih
      · rw [if_neg e] at ih
        rw [if_neg e]
        exact ih
theorem H_ready {μ : Mem} (st : ST μ) {B : Nat → Nat} {n : Nat} (hn : n ≤ 8) (h2 : LST 8 B n μ) (h3 : ∀ b, b < n → BOA B b μ) (em : gi μ 4 12 = gi μ 27 0) (s : Int32) : f_H_boatsReadyAt 4 s μ = some (.inl (rdc (gi μ 37) (gi μ 39) (gi μ 27 0) s n), μ) := H_ready_loop st hn h2 h3 em s 120000 0 (by omega) (by omega)
theorem M_away_loop {μ : Mem} (st : ST μ) {n : Nat} (hn : n ≤ 8) (h1 : gi μ 27 2 = nI n) : ∀ f k, k ≤ n → n - k < f → k_M_count_94 27 f (awc (gi μ 39) (gi μ 27 0) k) (nI k) μ = some (.inl (awc (gi μ 39) (gi μ 27 0) n), μ)
  | 0, k, _, h => by omega
  | f + 1, k, hk, h => by
    simp only [k_M_count_94]
    rw [e_gI27 st, h1]
    by_cases c : k = n
    · subst c
      rw [if_pos (nI_le (Nat.le_refl _) (by omega))]
    · have ih := M_away_loop st hn h1 f (k + 1) (by omega) (by omega)
      rw [if_neg (nI_ge (by omega) (by omega)), e_cV27 st, M_isAway st (by omega), e_bI]
      rw [← nI_1 k] at ih
      simp only [awc] at ih
      by_cases d : gi μ 39 k ≤ gi μ 27 0
      · rw [if_pos d] at ih
        rw [if_pos d, if_pos rfl]
        exact ih
      · rw [if_neg d] at ih
        rw [if_neg d, if_neg (by decide)]
        exact ih
theorem H_away_loop {μ : Mem} (st : ST μ) {B : Nat → Nat} {n : Nat} (hn : n ≤ 8) (h2 : LST 8 B n μ) (h3 : ∀ b, b < n → BOA B b μ) (em : gi μ 4 12 = gi μ 27 0) : ∀ f k, k ≤ n → n - k < f → k_H_boatsAway_4 4 f (awc (gi μ 39) (gi μ 27 0) k) (nI k) μ = some (.inl (awc (gi μ 39) (gi μ 27 0) n), μ)
  | 0, k, _, h => by omega
  | f + 1, k, hk, h => by
    simp only [k_H_boatsAway_4]
    rw [e_gR4_3 st, e_cV8 st, AL_size (st_h8 st), e_bI, h2.1]
    by_cases c : k = n
    · subst c
      rw [if_pos (nI_le (Nat.le_refl _) (by omega))]
    · have ih := H_away_loop st hn h2 h3 em f (k + 1) (by omega) (by omega)
      have bb := h3 k (by omega)
      rw [if_neg (nI_ge (by omega) (by omega)), e_gR4_3 st, e_cV8 st, AL_get (st_h8 st) h2 (by omega) (by omega : k < n), e_bR]
      unfold cC
      rw [if_pos (Or.inr bb.2.1), e_gI4 st, em, cV_at bb.2.1, B_isAway bb, e_bI]
      rw [← nI_1 k] at ih
      simp only [awc] at ih
      by_cases d : gi μ 39 k ≤ gi μ 27 0
      · rw [if_pos d] at ih
        rw [if_pos d, if_pos rfl]
        exact ih
      · rw [if_neg d] at ih
        rw [if_neg d, if_neg (by decide)]
        exact ih
def cvc (r : Int32 → Int32) : Nat → Int32
  | 0 => 0
  | k + 1 => if r (nI k) ≤ 0 then cvc r k else cvc r k + 1
theorem M_cov_loop {μ : Mem} (st : ST μ) {n : Nat} (hn : n ≤ 8) (h1 : gi μ 27 2 = nI n) : ∀ f k, k ≤ 6 → 6 - k < f → k_M_count_133 27 f (cvc (fun s => rdc (gi μ 37) (gi μ 39) (gi μ 27 0) s n) k) (nI k) μ = some (.inl (cvc (fun s => rdc (gi μ 37) (gi μ 39) (gi μ 27 0) s n) 6), μ)
  | 0, k, _, h => by omega
  | f + 1, k, hk, h => by
    simp only [k_M_count_133]
    by_cases c : k = 6
    · subst c
      rw [if_pos (by decide)]
    · have ih := M_cov_loop st hn h1 f (k + 1) (by omega) (by omega)
      rw [if_neg (show ¬ (6 : Int32) ≤ nI k from nI_ge (b := 6) (by omega) (by omega)), e_cV27 st, M_standing st hn h1, e_bI]
      rw [← nI_1 k] at ih
      simp only [cvc] at ih
      by_cases d : rdc (gi μ 37) (gi μ 39) (gi μ 27 0) (nI k) n ≤ 0
      · rw [if_pos d] at ih
        rw [if_pos d]
        exact ih
      · rw [if_neg d] at ih
        rw [if_neg d]
        exact ih
theorem H_cov_loop {μ : Mem} (st : ST μ) {B : Nat → Nat} {n : Nat} (hn : n ≤ 8) (h2 : LST 8 B n μ) (h3 : ∀ b, b < n → BOA B b μ) (em : gi μ 4 12 = gi μ 27 0) : ∀ f k, k ≤ 6 → 6 - k < f → k_H_stationsCovered_4 4 f (cvc (fun s => rdc (gi μ 37) (gi μ 39) (gi μ 27 0) s n) k) (nI k) μ = some (.inl (cvc (fun s => rdc (gi μ 37) (gi μ 39) (gi μ 27 0) s n) 6), μ)
  | 0, k, _, h => by omega
  | f + 1, k, hk, h => by
    simp only [k_H_stationsCovered_4]
    by_cases c : k = 6
    · subst c
      rw [if_pos (by decide)]
    · have ih := H_cov_loop st hn h2 h3 em f (k + 1) (by omega) (by omega)
      rw [if_neg (show ¬ (6 : Int32) ≤ nI k from nI_ge (b := 6) (by omega) (by omega)), e_cV4 st, H_ready st hn h2 h3 em, e_bI]
      rw [← nI_1 k] at ih
      simp only [cvc] at ih
      by_cases d : rdc (gi μ 37) (gi μ 39) (gi μ 27 0) (nI k) n ≤ 0
      · rw [if_pos d] at ih
        rw [if_pos d]
        exact ih
      · rw [if_neg d] at ih
        rw [if_neg d]
        exact ih
theorem count_mid {μ : Mem} (st : ST μ) (em : gi μ 4 12 = gi μ 27 0) {B P C U : Nat → Nat} {nb np nc nu : Nat} (hnb : nb ≤ 8) (g1 : gi μ 27 2 = nI nb) (g2 : LST 8 B nb μ) (g3 : ∀ b, b < nb → BOA B b μ) (p1 : gi μ 27 1 = nI np) (p2 : LST 7 P np μ) (c1 : gi μ 27 3 = nI nc) (c2 : LST 9 C nc μ) (u1 : gi μ 27 4 = nI nu) (u2 : LST 10 U nu μ) (y : Int32) : ∃ v, b_H_count_22 4 y μ = some (.inl v, μ) ∧ b_M_count_22 27 y μ = some (.inl v, μ) := by
  unfold b_H_count_22 b_M_count_22 f_H_boatsAway f_H_stationsCovered
  by_cases y0 : y = 0
  · rw [if_pos y0, if_pos y0]; exact ⟨_, e_gI4 st _ _, by rw [e_gI27 st, em]⟩
  rw [if_neg y0, if_neg y0]
  by_cases y1 : y = 1
  · rw [if_pos y1, if_pos y1]; exact ⟨bnd (gi μ 27 0), by rw [e_cV4 st, H_band st, em, e_bI], by rw [e_cV27 st, M_band st, e_bI]⟩
  rw [if_neg y1, if_neg y1]
  by_cases y2 : y = 2
  · rw [if_pos y2, if_pos y2]; exact ⟨nI np, by rw [e_gR4_2 st, e_cV7 st, AL_size (st_h7 st), e_bI, p2.1], by rw [e_gI27 st, p1]⟩
  rw [if_neg y2, if_neg y2]
  by_cases y3 : y = 3
  · rw [if_pos y3, if_pos y3]; exact ⟨nI nb, by rw [e_gR4_3 st, e_cV8 st, AL_size (st_h8 st), e_bI, g2.1], by rw [e_gI27 st, g1]⟩
  rw [if_neg y3, if_neg y3]
  by_cases y4 : y = 4
  · rw [if_pos y4, if_pos y4]
    exact ⟨awc (gi μ 39) (gi μ 27 0) nb, by rw [e_cV4 st, show k_H_boatsAway_4 4 120000 0 0 μ = _ from H_away_loop st hnb g2 g3 em 120000 0 (by omega) (by omega), e_bI], M_away_loop st hnb g1 120000 0 (by omega) (by omega)⟩
  rw [if_neg y4, if_neg y4]
  by_cases y5 : y = 5
  · rw [if_pos y5, if_pos y5]; exact ⟨nI nc, by rw [e_gR4_4 st, e_cV9 st, AL_size (st_h9 st), e_bI, c2.1], by rw [e_gI27 st, c1]⟩
  rw [if_neg y5, if_neg y5]
  by_cases y6 : y = 6
  · rw [if_pos y6, if_pos y6]; exact ⟨nI nu, by rw [e_gR4_5 st, e_cV10 st, AL_size (st_h10 st), e_bI, u2.1], by rw [e_gI27 st, u1]⟩
  rw [if_neg y6, if_neg y6]
  by_cases y7 : y = 7
  · rw [if_pos y7, if_pos y7]
    exact ⟨cvc (fun s => rdc (gi μ 37) (gi μ 39) (gi μ 27 0) s nb) 6, by rw [e_cV4 st, show k_H_stationsCovered_4 4 120000 0 0 μ = _ from H_cov_loop st hnb g2 g3 em 120000 0 (by omega) (by omega), e_bI], M_cov_loop st hnb g1 120000 0 (by omega) (by omega)⟩
  rw [if_neg y7, if_neg y7]
  exact ⟨_, rfl, rfl⟩
theorem op_covered {μ : Mem} (i : Inv μ) (s : Int32) : Opx (f_H_covered 4 s) (f_M_covered 27 s) μ := by
  have st := i.1
  have stA : ∀ h k x, ST (si μ h k x) := fun _ _ _ => st
  have stB : ∀ h k x h' k' x', ST (si (si μ h k x) h' k' x') := fun _ _ _ _ _ _ => st
  have em := i.2.1.1
  obtain ⟨B, nb, hnb, g1, g2, g3, g4, g5, g6⟩ := i.2.2.2.2.2.2.2.2.1
  by_cases h0 : s < 0 ∨ 6 ≤ s
  · exact Opx.ref (c := -1) i 1 (by decide) (by simp only [f_H_covered, rf_1, HisStation_f _ h0, e_nm, e_bI, e_bR, e_bV, e_gI4, e_pI4, e_cV4, e_gR4_0, e_gR4_1, e_gR4_2, e_gR4_3, e_gR4_4, e_gR4_5, e_gR4_6, e_gR4_7, e_gR4_8, e_gR4_9, e_gR4_10, e_gR4_11, e_aI5, e_aS5, e_aI6, e_aS6, e_gI7, e_pI7, e_cV7, e_gR7, e_gI8, e_pI8, e_cV8, e_gR8, e_gI9, e_pI9, e_cV9, e_gR9, e_gI10, e_pI10, e_cV10, e_gR10, e_gI11, e_pI11, e_cV11, e_gR11_0, e_aI12, e_aS12, e_gI13, e_pI13, e_cV13, e_gR13_0, e_aI14, e_aS14, e_gI15, e_pI15, e_cV15, e_gI16, e_pI16, e_cV16, e_gR16_0, e_gR16_3, e_gR16_4, e_gR16_5, e_gR16_6, e_aI17, e_aS17, e_aI18, e_aS18, e_aI19, e_aS19, e_zI20, e_zS20, e_aI21, e_aS21, e_gI22, e_pI22, e_cV22, e_gR22_0, e_gR22_1, e_gR22_3, e_aI23, e_aS23, e_aI24, e_aS24, e_aI25, e_aS25, e_aI26, e_aS26, e_gI27, e_pI27, e_cV27, e_gR27_7, e_gR27_8, e_gR27_9, e_gR27_10, e_gR27_11, e_gR27_12, e_gR27_13, e_gR27_14, e_gR27_15, e_gR27_16, e_gR27_17, e_gR27_18, e_gR27_19, e_gR27_20, e_gR27_21, e_gR27_22, e_gR27_23, e_gR27_24, e_gR27_25, e_gR27_26, e_gR27_27, e_gR27_28, e_gR27_29, e_gR27_30, e_gR27_31, e_gR27_32, e_gR27_33, e_gR27_34, e_gR27_35, e_gR27_36, e_gR27_37, e_aI28, e_aS28, e_aI29, e_aS29, e_aI30, e_aS30, e_aI31, e_aS31, e_aI32, e_aS32, e_aI33, e_aS33, e_aI34, e_aS34, e_aI35, e_aS35, e_aI36, e_aS36, e_aI37, e_aS37, e_aI38, e_aS38, e_aI39, e_aS39, e_aI40, e_aS40, e_aI41, e_aS41, e_aI42, e_aS42, e_aI43, e_aS43, e_aI44, e_aS44, e_aI45, e_aS45, e_aI46, e_aS46, e_aI47, e_aS47, e_aI48, e_aS48, e_aI49, e_aS49, e_aI50, e_aS50, e_aI51, e_aS51, e_aI52, e_aS52, e_aI53, e_aS53, e_aI54, e_aS54, e_aI55, e_aS55, e_aI56, e_aS56, e_aI57, e_aS57, e_aI58, e_aS58, st, stA, stB, inb, and_self, if_true, if_false, i32_00, i32_10, i32_m40, i32_m60]) (by simp only [f_M_covered, no_1, MisStation_f _ h0, e_nm, e_bI, e_bR, e_bV, e_gI4, e_pI4, e_cV4, e_gR4_0, e_gR4_1, e_gR4_2, e_gR4_3, e_gR4_4, e_gR4_5, e_gR4_6, e_gR4_7, e_gR4_8, e_gR4_9, e_gR4_10, e_gR4_11, e_aI5, e_aS5, e_aI6, e_aS6, e_gI7, e_pI7, e_cV7, e_gR7, e_gI8, e_pI8, e_cV8, e_gR8, e_gI9, e_pI9, e_cV9, e_gR9, e_gI10, e_pI10, e_cV10, e_gR10, e_gI11, e_pI11, e_cV11, e_gR11_0, e_aI12, e_aS12, e_gI13, e_pI13, e_cV13, e_gR13_0, e_aI14, e_aS14, e_gI15, e_pI15, e_cV15, e_gI16, e_pI16, e_cV16, e_gR16_0, e_gR16_3, e_gR16_4, e_gR16_5, e_gR16_6, e_aI17, e_aS17, e_aI18, e_aS18, e_aI19, e_aS19, e_zI20, e_zS20, e_aI21, e_aS21, e_gI22, e_pI22, e_cV22, e_gR22_0, e_gR22_1, e_gR22_3, e_aI23, e_aS23, e_aI24, e_aS24, e_aI25, e_aS25, e_aI26, e_aS26, e_gI27, e_pI27, e_cV27, e_gR27_7, e_gR27_8, e_gR27_9, e_gR27_10, e_gR27_11, e_gR27_12, e_gR27_13, e_gR27_14, e_gR27_15, e_gR27_16, e_gR27_17, e_gR27_18, e_gR27_19, e_gR27_20, e_gR27_21, e_gR27_22, e_gR27_23, e_gR27_24, e_gR27_25, e_gR27_26, e_gR27_27, e_gR27_28, e_gR27_29, e_gR27_30, e_gR27_31, e_gR27_32, e_gR27_33, e_gR27_34, e_gR27_35, e_gR27_36, e_gR27_37, e_aI28, e_aS28, e_aI29, e_aS29, e_aI30, e_aS30, e_aI31, e_aS31, e_aI32, e_aS32, e_aI33, e_aS33, e_aI34, e_aS34, e_aI35, e_aS35, e_aI36, e_aS36, e_aI37, e_aS37, e_aI38, e_aS38, e_aI39, e_aS39, e_aI40, e_aS40, e_aI41, e_aS41, e_aI42, e_aS42, e_aI43, e_aS43, e_aI44, e_aS44, e_aI45, e_aS45, e_aI46, e_aS46, e_aI47, e_aS47, e_aI48, e_aS48, e_aI49, e_aS49, e_aI50, e_aS50, e_aI51, e_aS51, e_aI52, e_aS52, e_aI53, e_aS53, e_aI54, e_aS54, e_aI55, e_aS55, e_aI56, e_aS56, e_aI57, e_aS57, e_aI58, e_aS58, st, stA, stB, inb, and_self, if_true, if_false, i32_00, i32_10, i32_m40, i32_m60])
  · have h1 : ¬ s < 0 := fun q => h0 (Or.inl q)
    have h2 : ¬ 6 ≤ s := fun q => h0 (Or.inr q)
    by_cases d : rdc (gi μ 37) (gi μ 39) (gi μ 27 0) s nb ≤ 0
    · exact Opx.rd 0 i (by simp only [f_H_covered, HisStation_t _ h1 h2, H_ready st hnb g2 g3 em, d, e_nm, e_bI, e_bR, e_bV, e_gI4, e_pI4, e_cV4, e_gR4_0, e_gR4_1, e_gR4_2, e_gR4_3, e_gR4_4, e_gR4_5, e_gR4_6, e_gR4_7, e_gR4_8, e_gR4_9, e_gR4_10, e_gR4_11, e_aI5, e_aS5, e_aI6, e_aS6, e_gI7, e_pI7, e_cV7, e_gR7, e_gI8, e_pI8, e_cV8, e_gR8, e_gI9, e_pI9, e_cV9, e_gR9, e_gI10, e_pI10, e_cV10, e_gR10, e_gI11, e_pI11, e_cV11, e_gR11_0, e_aI12, e_aS12, e_gI13, e_pI13, e_cV13, e_gR13_0, e_aI14, e_aS14, e_gI15, e_pI15, e_cV15, e_gI16, e_pI16, e_cV16, e_gR16_0, e_gR16_3, e_gR16_4, e_gR16_5, e_gR16_6, e_aI17, e_aS17, e_aI18, e_aS18, e_aI19, e_aS19, e_zI20, e_zS20, e_aI21, e_aS21, e_gI22, e_pI22, e_cV22, e_gR22_0, e_gR22_1, e_gR22_3, e_aI23, e_aS23, e_aI24, e_aS24, e_aI25, e_aS25, e_aI26, e_aS26, e_gI27, e_pI27, e_cV27, e_gR27_7, e_gR27_8, e_gR27_9, e_gR27_10, e_gR27_11, e_gR27_12, e_gR27_13, e_gR27_14, e_gR27_15, e_gR27_16, e_gR27_17, e_gR27_18, e_gR27_19, e_gR27_20, e_gR27_21, e_gR27_22, e_gR27_23, e_gR27_24, e_gR27_25, e_gR27_26, e_gR27_27, e_gR27_28, e_gR27_29, e_gR27_30, e_gR27_31, e_gR27_32, e_gR27_33, e_gR27_34, e_gR27_35, e_gR27_36, e_gR27_37, e_aI28, e_aS28, e_aI29, e_aS29, e_aI30, e_aS30, e_aI31, e_aS31, e_aI32, e_aS32, e_aI33, e_aS33, e_aI34, e_aS34, e_aI35, e_aS35, e_aI36, e_aS36, e_aI37, e_aS37, e_aI38, e_aS38, e_aI39, e_aS39, e_aI40, e_aS40, e_aI41, e_aS41, e_aI42, e_aS42, e_aI43, e_aS43, e_aI44, e_aS44, e_aI45, e_aS45, e_aI46, e_aS46, e_aI47, e_aS47, e_aI48, e_aS48, e_aI49, e_aS49, e_aI50, e_aS50, e_aI51, e_aS51, e_aI52, e_aS52, e_aI53, e_aS53, e_aI54, e_aS54, e_aI55, e_aS55, e_aI56, e_aS56, e_aI57, e_aS57, e_aI58, e_aS58, st, stA, stB, inb, and_self, if_true, if_false, i32_00, i32_10, i32_m40, i32_m60]) (by simp only [f_M_covered, MisStation_t _ h1 h2, M_standing st hnb g1, d, e_nm, e_bI, e_bR, e_bV, e_gI4, e_pI4, e_cV4, e_gR4_0, e_gR4_1, e_gR4_2, e_gR4_3, e_gR4_4, e_gR4_5, e_gR4_6, e_gR4_7, e_gR4_8, e_gR4_9, e_gR4_10, e_gR4_11, e_aI5, e_aS5, e_aI6, e_aS6, e_gI7, e_pI7, e_cV7, e_gR7, e_gI8, e_pI8, e_cV8, e_gR8, e_gI9, e_pI9, e_cV9, e_gR9, e_gI10, e_pI10, e_cV10, e_gR10, e_gI11, e_pI11, e_cV11, e_gR11_0, e_aI12, e_aS12, e_gI13, e_pI13, e_cV13, e_gR13_0, e_aI14, e_aS14, e_gI15, e_pI15, e_cV15, e_gI16, e_pI16, e_cV16, e_gR16_0, e_gR16_3, e_gR16_4, e_gR16_5, e_gR16_6, e_aI17, e_aS17, e_aI18, e_aS18, e_aI19, e_aS19, e_zI20, e_zS20, e_aI21, e_aS21, e_gI22, e_pI22, e_cV22, e_gR22_0, e_gR22_1, e_gR22_3, e_aI23, e_aS23, e_aI24, e_aS24, e_aI25, e_aS25, e_aI26, e_aS26, e_gI27, e_pI27, e_cV27, e_gR27_7, e_gR27_8, e_gR27_9, e_gR27_10, e_gR27_11, e_gR27_12, e_gR27_13, e_gR27_14, e_gR27_15, e_gR27_16, e_gR27_17, e_gR27_18, e_gR27_19, e_gR27_20, e_gR27_21, e_gR27_22, e_gR27_23, e_gR27_24, e_gR27_25, e_gR27_26, e_gR27_27, e_gR27_28, e_gR27_29, e_gR27_30, e_gR27_31, e_gR27_32, e_gR27_33, e_gR27_34, e_gR27_35, e_gR27_36, e_gR27_37, e_aI28, e_aS28, e_aI29, e_aS29, e_aI30, e_aS30, e_aI31, e_aS31, e_aI32, e_aS32, e_aI33, e_aS33, e_aI34, e_aS34, e_aI35, e_aS35, e_aI36, e_aS36, e_aI37, e_aS37, e_aI38, e_aS38, e_aI39, e_aS39, e_aI40, e_aS40, e_aI41, e_aS41, e_aI42, e_aS42, e_aI43, e_aS43, e_aI44, e_aS44, e_aI45, e_aS45, e_aI46, e_aS46, e_aI47, e_aS47, e_aI48, e_aS48, e_aI49, e_aS49, e_aI50, e_aS50, e_aI51, e_aS51, e_aI52, e_aS52, e_aI53, e_aS53, e_aI54, e_aS54, e_aI55, e_aS55, e_aI56, e_aS56, e_aI57, e_aS57, e_aI58, e_aS58, st, stA, stB, inb, and_self, if_true, if_false, i32_00, i32_10, i32_m40, i32_m60])
    · exact Opx.rd 1 i (by simp only [f_H_covered, HisStation_t _ h1 h2, H_ready st hnb g2 g3 em, d, e_nm, e_bI, e_bR, e_bV, e_gI4, e_pI4, e_cV4, e_gR4_0, e_gR4_1, e_gR4_2, e_gR4_3, e_gR4_4, e_gR4_5, e_gR4_6, e_gR4_7, e_gR4_8, e_gR4_9, e_gR4_10, e_gR4_11, e_aI5, e_aS5, e_aI6, e_aS6, e_gI7, e_pI7, e_cV7, e_gR7, e_gI8, e_pI8, e_cV8, e_gR8, e_gI9, e_pI9, e_cV9, e_gR9, e_gI10, e_pI10, e_cV10, e_gR10, e_gI11, e_pI11, e_cV11, e_gR11_0, e_aI12, e_aS12, e_gI13, e_pI13, e_cV13, e_gR13_0, e_aI14, e_aS14, e_gI15, e_pI15, e_cV15, e_gI16, e_pI16, e_cV16, e_gR16_0, e_gR16_3, e_gR16_4, e_gR16_5, e_gR16_6, e_aI17, e_aS17, e_aI18, e_aS18, e_aI19, e_aS19, e_zI20, e_zS20, e_aI21, e_aS21, e_gI22, e_pI22, e_cV22, e_gR22_0, e_gR22_1, e_gR22_3, e_aI23, e_aS23, e_aI24, e_aS24, e_aI25, e_aS25, e_aI26, e_aS26, e_gI27, e_pI27, e_cV27, e_gR27_7, e_gR27_8, e_gR27_9, e_gR27_10, e_gR27_11, e_gR27_12, e_gR27_13, e_gR27_14, e_gR27_15, e_gR27_16, e_gR27_17, e_gR27_18, e_gR27_19, e_gR27_20, e_gR27_21, e_gR27_22, e_gR27_23, e_gR27_24, e_gR27_25, e_gR27_26, e_gR27_27, e_gR27_28, e_gR27_29, e_gR27_30, e_gR27_31, e_gR27_32, e_gR27_33, e_gR27_34, e_gR27_35, e_gR27_36, e_gR27_37, e_aI28, e_aS28, e_aI29, e_aS29, e_aI30, e_aS30, e_aI31, e_aS31, e_aI32, e_aS32, e_aI33, e_aS33, e_aI34, e_aS34, e_aI35, e_aS35, e_aI36, e_aS36, e_aI37, e_aS37, e_aI38, e_aS38, e_aI39, e_aS39, e_aI40, e_aS40, e_aI41, e_aS41, e_aI42, e_aS42, e_aI43, e_aS43, e_aI44, e_aS44, e_aI45, e_aS45, e_aI46, e_aS46, e_aI47, e_aS47, e_aI48, e_aS48, e_aI49, e_aS49, e_aI50, e_aS50, e_aI51, e_aS51, e_aI52, e_aS52, e_aI53, e_aS53, e_aI54, e_aS54, e_aI55, e_aS55, e_aI56, e_aS56, e_aI57, e_aS57, e_aI58, e_aS58, st, stA, stB, inb, and_self, if_true, if_false, i32_00, i32_10, i32_m40, i32_m60]) (by simp only [f_M_covered, MisStation_t _ h1 h2, M_standing st hnb g1, d, e_nm, e_bI, e_bR, e_bV, e_gI4, e_pI4, e_cV4, e_gR4_0, e_gR4_1, e_gR4_2, e_gR4_3, e_gR4_4, e_gR4_5, e_gR4_6, e_gR4_7, e_gR4_8, e_gR4_9, e_gR4_10, e_gR4_11, e_aI5, e_aS5, e_aI6, e_aS6, e_gI7, e_pI7, e_cV7, e_gR7, e_gI8, e_pI8, e_cV8, e_gR8, e_gI9, e_pI9, e_cV9, e_gR9, e_gI10, e_pI10, e_cV10, e_gR10, e_gI11, e_pI11, e_cV11, e_gR11_0, e_aI12, e_aS12, e_gI13, e_pI13, e_cV13, e_gR13_0, e_aI14, e_aS14, e_gI15, e_pI15, e_cV15, e_gI16, e_pI16, e_cV16, e_gR16_0, e_gR16_3, e_gR16_4, e_gR16_5, e_gR16_6, e_aI17, e_aS17, e_aI18, e_aS18, e_aI19, e_aS19, e_zI20, e_zS20, e_aI21, e_aS21, e_gI22, e_pI22, e_cV22, e_gR22_0, e_gR22_1, e_gR22_3, e_aI23, e_aS23, e_aI24, e_aS24, e_aI25, e_aS25, e_aI26, e_aS26, e_gI27, e_pI27, e_cV27, e_gR27_7, e_gR27_8, e_gR27_9, e_gR27_10, e_gR27_11, e_gR27_12, e_gR27_13, e_gR27_14, e_gR27_15, e_gR27_16, e_gR27_17, e_gR27_18, e_gR27_19, e_gR27_20, e_gR27_21, e_gR27_22, e_gR27_23, e_gR27_24, e_gR27_25, e_gR27_26, e_gR27_27, e_gR27_28, e_gR27_29, e_gR27_30, e_gR27_31, e_gR27_32, e_gR27_33, e_gR27_34, e_gR27_35, e_gR27_36, e_gR27_37, e_aI28, e_aS28, e_aI29, e_aS29, e_aI30, e_aS30, e_aI31, e_aS31, e_aI32, e_aS32, e_aI33, e_aS33, e_aI34, e_aS34, e_aI35, e_aS35, e_aI36, e_aS36, e_aI37, e_aS37, e_aI38, e_aS38, e_aI39, e_aS39, e_aI40, e_aS40, e_aI41, e_aS41, e_aI42, e_aS42, e_aI43, e_aS43, e_aI44, e_aS44, e_aI45, e_aS45, e_aI46, e_aS46, e_aI47, e_aS47, e_aI48, e_aS48, e_aI49, e_aS49, e_aI50, e_aS50, e_aI51, e_aS51, e_aI52, e_aS52, e_aI53, e_aS53, e_aI54, e_aS54, e_aI55, e_aS55, e_aI56, e_aS56, e_aI57, e_aS57, e_aI58, e_aS58, st, stA, stB, inb, and_self, if_true, if_false, i32_00, i32_10, i32_m40, i32_m60])
theorem op_count {μ : Mem} (i : Inv μ) (y : Int32) : Opx (f_H_count 4 y) (f_M_count 27 y) μ := by
  have st := i.1
  have stA : ∀ h k x, ST (si μ h k x) := fun _ _ _ => st
  have stB : ∀ h k x h' k' x', ST (si (si μ h k x) h' k' x') := fun _ _ _ _ _ _ => st
  have em := i.2.1.1
  obtain ⟨B, nb, hnb, g1, g2, g3, g4, g5, g6⟩ := i.2.2.2.2.2.2.2.2.1
  obtain ⟨P, np, hnp, p1, p2, -⟩ := i.2.2.2.2.2.2.2.1
  obtain ⟨C, nc, hnc, c1, c2, -⟩ := i.2.2.2.2.2.2.2.2.2.1
  obtain ⟨U, nu, hnu, u1, u2, -⟩ := i.2.2.2.2.2.2.2.2.2.2.1
  by_cases a : y < 11
  · have a2 : y ≤ 10 := by rw [i32_le]; rw [i32_lt] at a; simp at a ⊢; omega
    have hX : f_H_count 4 y μ = b_H_count_22 4 y μ := if_pos a
    have hY : f_M_count 27 y μ = b_M_count_22 27 y μ := if_pos a2
    obtain ⟨v, e1, e2⟩ := count_mid st em hnb g1 g2 g3 p1 p2 c1 c2 u1 u2 y
    exact Opx.rd v i (hX.trans e1) (hY.trans e2)
  · have a2 : ¬ y ≤ 10 := by rw [i32_le]; rw [i32_lt] at a; simp at a ⊢; omega
    by_cases b : 16 < y
    · have b2 : 17 ≤ y := by rw [i32_le]; rw [i32_lt] at b; simp at b ⊢; omega
      have hX : f_H_count 4 y μ = b_H_count_22 4 y μ := by unfold f_H_count; rw [if_neg a, if_pos b]
      have hY : f_M_count 27 y μ = b_M_count_22 27 y μ := by unfold f_M_count; rw [if_neg a2, if_pos b2]
      obtain ⟨v, e1, e2⟩ := count_mid st em hnb g1 g2 g3 p1 p2 c1 c2 u1 u2 y
      exact Opx.rd v i (hX.trans e1) (hY.trans e2)
    · have b2 : ¬ 17 ≤ y := by rw [i32_le]; rw [i32_lt] at b; simp at b ⊢; omega
      have hy : 11 ≤ y.toInt ∧ y.toInt ≤ 16 := by rw [i32_lt] at a b; simp at a b; omega
      have hs : (y - 10).toInt = y.toInt - 10 := by rw [sub_ti (by simp; omega) (by simp; omega)]; rfl
      have hi : inb (y - 10) 7 := inb_of (by rw [hs]; omega) (by rw [hs]; omega)
      refine Opx.rd (gi μ 52 (y - 10).toNatClampNeg) i ?_ ?_
      · unfold f_H_count; rw [if_neg a, if_neg b, e_gR4_11 st, e_aI26 st hi, i.2.2.2.2.1 _ hi.2]
      · unfold f_M_count; rw [if_neg a2, if_neg b2, e_gR27_31 st, e_aI52 st hi]
