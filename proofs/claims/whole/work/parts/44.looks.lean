/-! looks, lookAt -/
abbrev Ssc (h k : Nat) : Prop := h < 59 ∧ ((13 ≤ h ∧ h ≤ 22) ∨ h = 24 ∨ h = 25 ∨ h = 50 ∨ h = 51 ∨ 53 ≤ h ∨ (h = 27 ∧ 7 ≤ k))
theorem Inv.sc {μ ν : Mem} (a : Fr Ssc μ ν) (i : Inv μ) : Inv ν := i.fr a (fun _ _ q => q)
theorem Frsc {μ : Mem} {h k : Nat} {x : Int32} (g : Ssc h k) : Fr Ssc μ (si μ h k x) := Fr.si (S := Ssc) g
def ric (l : Nat → Int32) (e : Int32) : Nat → Nat
  | 0 => 0
  | k + 1 => if l (k + 1) * e / 10 ≤ l (ric l e k) * e / 10 then ric l e k else k + 1
theorem ric_s (l : Nat → Int32) (e : Int32) (k : Nat) : ric l e (k + 1) = if l (k + 1) * e / 10 ≤ l (ric l e k) * e / 10 then ric l e k else k + 1 := rfl
theorem ric_le (l : Nat → Int32) (e : Int32) : ∀ k, ric l e k ≤ k
  | 0 => Nat.le_refl _
  | k + 1 => by
    have := ric_le l e k
    rw [ric_s]
    split <;> omega
def lsv (w : Nat → Int32) (e : Int32) : Nat → Nat → Int32
  | 0 => w
  | m + 1 => fun j => if j = ric (lsv w e m) e 11 then lsv w e m j * (10 - e) / 10 else lsv w e m j
def fdv (w : Nat → Int32) (e : Int32) : Nat → Int32
  | 0 => 0
  | m + 1 => fdv w e m + lsv w e m (ric (lsv w e m) e 11) * e / 10
def bsv (w : Nat → Int32) (e : Int32) (m : Nat) : Nat := ric (lsv w e m) e 11
theorem lsv_s (w : Nat → Int32) (e : Int32) (m j : Nat) : lsv w e (m + 1) j = if j = bsv w e m then lsv w e m j * (10 - e) / 10 else lsv w e m j := rfl
theorem fdv_s (w : Nat → Int32) (e : Int32) (m : Nat) : fdv w e (m + 1) = fdv w e m + lsv w e m (bsv w e m) * e / 10 := rfl
theorem bsv_lt (w : Nat → Int32) (e : Int32) (m : Nat) : bsv w e m < 12 := by
  have := ric_le (lsv w e m) e 11
  unfold bsv
  omega
theorem S_rich_loop {ν : Mem} (st : ST ν) (l : Nat → Int32) (e : Int32) (hl : ∀ j, j < 12 → gi ν 25 j = l j) : ∀ f k, k ≤ 11 → 11 - k < f → k_S_richest_4 22 e f (nI (ric l e k)) (nI (k + 1)) ν = some (.inl (nI (ric l e 11)), ν)
  | 0, k, _, h => by omega
  | f + 1, k, hk, h => by
    simp only [k_S_richest_4]
    by_cases q : k = 11
    · subst q
      rw [if_pos (by decide)]
    · have ih := S_rich_loop st l e hl f (k + 1) (by omega) (by omega)
      have r := ric_le l e k
      rw [if_neg (show ¬ (12 : Int32) ≤ nI (k + 1) from nI_ge (b := 12) (by omega) (by omega)), e_gR22_3 st, e_aI25 st (inb_nI (by omega) (by omega)), cl_nI (by omega), hl _ (by omega)]
      unfold f_S_foundOf
      rw [e_bI, e_gR22_3 st, e_aI25 st (inb_nI (by omega) (by omega)), cl_nI (by omega), hl _ (by omega), e_bI]
      rw [ric_s, ← nI_1 (k + 1)] at ih
      by_cases d : l (k + 1) * e / 10 ≤ l (ric l e k) * e / 10
      · rw [if_pos d] at ih ⊢
        exact ih
      · rw [if_neg d] at ih ⊢
        exact ih
theorem S_rich {ν : Mem} (st : ST ν) (l : Nat → Int32) (e : Int32) (hl : ∀ j, j < 12 → gi ν 25 j = l j) : f_S_richest 22 e ν = some (.inl (nI (ric l e 11)), ν) := S_rich_loop st l e hl 120000 0 (by omega) (by omega)
def RH (μ : Mem) (w : Nat → Int32) (e : Int32) (m : Nat) (ν : Mem) : Prop := Fr Ssc μ ν ∧ (∀ j, j < 12 → gi ν 25 j = lsv w e m j) ∧ (∀ j, j < m → gi ν 24 j = nI (bsv w e j)) ∧ gi ν 22 2 = fdv w e m
theorem S_plan_loop {μ : Mem} (st0 : ST μ) (w : Nat → Int32) (e : Int32) {N : Nat} (hN : N ≤ 20) : ∀ f m ν, m ≤ N → N - m < f → RH μ w e m ν → ∃ ν', k_S_plan_22 22 (nI N) e f (nI m) ν = some (.inl 0, ν') ∧ RH μ w e N ν'
  | 0, m, ν, _, h, _ => by omega
  | f + 1, m, ν, hm, h, r => by
    obtain ⟨r1, r2, r3, r4⟩ := r
    have st := st0.fr r1
    simp only [k_S_plan_22]
    by_cases q : m = N
    · subst q
      rw [if_pos (nI_le (Nat.le_refl _) (by omega))]
      exact ⟨ν, rfl, r1, r2, r3, r4⟩
    · have b12 := bsv_lt w e m
      have hrr : f_S_richest 22 e ν = some (.inl (nI (bsv w e m)), ν) := S_rich st (lsv w e m) e r2
      rw [if_neg (nI_ge (by omega) (by omega)), if_neg (show ¬ (20 : Int32) ≤ nI m from nI_ge (b := 20) (by omega) (by omega)), e_cV22 st, hrr, e_bI]
      have sA : ∀ a b x, ST (si ν a b x) := fun _ _ _ => st
      have sB : ∀ a b x a1 b1 x1, ST (si (si ν a b x) a1 b1 x1) := fun _ _ _ _ _ _ => st
      have g1 : gi (si ν 24 m (nI (bsv w e m))) 22 2 = fdv w e m := r4
      have g2 : gi (si ν 24 m (nI (bsv w e m))) 25 (bsv w e m) = lsv w e m (bsv w e m) := r2 _ b12
      rw [e_gR22_1 st, e_aS24 st (inb_nI (by omega) (by omega)), cl_nI (by omega), e_gI22 (sA _ _ _), g1, e_gR22_3 (sA _ _ _), e_aI25 (sA _ _ _) (inb_nI b12 (by omega)), cl_nI (by omega), g2]
      unfold f_S_foundOf f_S_leftOf
      rw [e_bI, e_pI22 (sA _ _ _), e_gR22_3 (sB _ _ _ _ _ _), e_gR22_3 (sB _ _ _ _ _ _), e_aI25 (sB _ _ _ _ _ _) (inb_nI b12 (by omega)), cl_nI (by omega), e_bI, e_aS25 (sB _ _ _ _ _ _) (inb_nI b12 (by omega)), cl_nI (by omega), nI_1]
      have g3 : gi (si (si ν 24 m (nI (bsv w e m))) 22 2 (fdv w e m + lsv w e m (bsv w e m) * e / 10)) 25 (bsv w e m) = lsv w e m (bsv w e m) := r2 _ b12
      rw [g3]
      refine S_plan_loop st0 w e hN f (m + 1) _ (by omega) (by omega) ⟨r1.tr ((Frsc (by omega)).tr ((Frsc (by omega)).tr (Frsc (by omega)))), ?_, ?_, ?_⟩
      · intro j hj
        rw [lsv_s]
        by_cases z : j = bsv w e m
        · rw [if_pos z, ← z, gi_eq]
        · rw [if_neg z, gi_ne (by omega), gi_ne (by omega), gi_ne (by omega)]
          exact r2 j hj
      · intro j hj
        rw [gi_ne (by omega), gi_ne (by omega)]
        by_cases z : j = m
        · rw [z, gi_eq]
        · rw [gi_ne (by omega)]
          exact r3 j (by omega)
      · rw [gi_ne (by omega), gi_eq, fdv_s]
theorem S_plan {μ : Mem} (st : ST μ) (wo : I_worth μ) (e : Int32) {N : Nat} (hN : N ≤ 20) : ∃ ν, f_S_plan 22 (nI N) e μ = some (.inl 0, ν) ∧ RH μ (gi μ 49) e N ν := by
  have fr : Fr Ssc μ (mcI μ 23 0 25 0 12) := Fr.mcI (S := Ssc) (fun k => by omega)
  have st2 : ST (mcI μ 23 0 25 0 12) := st.fr fr
  obtain ⟨ν, a, b⟩ := S_plan_loop st (gi μ 49) e hN 120000 0 (si (mcI μ 23 0 25 0 12) 22 2 0) (by omega) (by omega) ⟨fr.tr (Frsc (by omega)), fun j hj => by
    rw [gi_ne (by omega), gi_mcI, if_pos rfl]
    unfold va_cpy
    rw [if_pos (by omega), show 0 + (j - 0) = j by omega]
    exact (wo j hj).1, fun j hj => by omega, gi_eq _ _ _ _⟩
  refine ⟨ν, ?_, b⟩
  unfold f_S_plan
  rw [e_gR22_0 st, e_gR22_3 st]
  unfold cpI
  rw [st_h23 st, st_h25 st, if_pos (by decide)]
  show pI 7 22 2 0 (mcI μ 23 0 25 0 12) _ = _
  rw [e_pI22 st2]
  exact a
theorem M_cp_loop {μ : Mem} (st0 : ST μ) (n e : Int32) (K : Nat → Int32 → Int32 → Mem → Option (LV × Mem)) : ∀ f k ν, k ≤ 12 → 12 - k < f → Fr Ssc μ ν → (∀ j, j < k → gi ν 50 j = gi μ 49 j) → ∃ ν', k_M_tries_2 K 27 n e f (nI k) ν = K 27 n e ν' ∧ Fr Ssc μ ν' ∧ ∀ j, j < 12 → gi ν' 50 j = gi μ 49 j
  | 0, k, ν, _, h, _, _ => by omega
  | f + 1, k, ν, hk, h, fr, hj => by
    have st := st0.fr fr
    simp only [k_M_tries_2]
    by_cases q : k = 12
    · subst q
      rw [if_pos (by decide)]
      exact ⟨ν, rfl, fr, hj⟩
    · rw [if_neg (show ¬ (12 : Int32) ≤ nI k from nI_ge (b := 12) (by omega) (by omega)), e_gR27_29 st, e_gR27_28 st, e_aI49 st (inb_nI (by omega) (by omega)), e_aS50 st (inb_nI (by omega) (by omega)), cl_nI (by omega), nI_1, fr.2 49 k (by omega)]
      refine M_cp_loop st0 n e K f (k + 1) _ (by omega) (by omega) (fr.tr (Frsc (by omega))) ?_
      intro j hj2
      by_cases z : j = k
      · rw [z, gi_eq]
      · rw [gi_ne (by omega)]
        exact hj j (by omega)
theorem M_rich_loop {ν : Mem} (st : ST ν) (l : Nat → Int32) (n e a3 a4 : Int32) (K : Int32 → Int32 → Int32 → Mem → Option (LV × Mem)) (hl : ∀ j, j < 12 → gi ν 50 j = l j) : ∀ f k, k ≤ 11 → 11 - k < f → k_M_tries_43 K 27 n e a3 a4 f (nI (ric l e k)) (nI (k + 1)) ν = K a3 a4 (nI (ric l e 11)) ν
  | 0, k, _, h => by omega
  | f + 1, k, hk, h => by
    simp only [k_M_tries_43]
    by_cases q : k = 11
    · subst q
      rw [if_pos (by decide)]
    · have ih := M_rich_loop st l n e a3 a4 K hl f (k + 1) (by omega) (by omega)
      have r := ric_le l e k
      rw [if_neg (show ¬ (12 : Int32) ≤ nI (k + 1) from nI_ge (b := 12) (by omega) (by omega)), e_gR27_29 st, e_aI50 st (inb_nI (by omega) (by omega)), cl_nI (by omega), hl _ (by omega), e_gR27_29 st, e_aI50 st (inb_nI (by omega) (by omega)), cl_nI (by omega), hl _ (by omega)]
      rw [ric_s, ← nI_1 (k + 1)] at ih
      by_cases d : l (k + 1) * e / 10 ≤ l (ric l e k) * e / 10
      · rw [if_pos d] at ih ⊢
        exact ih
      · rw [if_neg d] at ih ⊢
        exact ih
def RM (μ : Mem) (w : Nat → Int32) (e : Int32) (m : Nat) (ν : Mem) : Prop := Fr Ssc μ ν ∧ (∀ j, j < 12 → gi ν 50 j = lsv w e m j) ∧ (∀ j, j < m → gi ν 51 j = nI (bsv w e j))
theorem M_tries_loop {μ : Mem} (st0 : ST μ) (w : Nat → Int32) (e : Int32) {N : Nat} (hN : N ≤ 20) : ∀ f m ν, m ≤ N → N - m < f → RM μ w e m ν → ∃ ν', k_M_tries_31 27 (nI N) e f (fdv w e m) (nI m) ν = some (.inl (fdv w e N), ν') ∧ RM μ w e N ν'
  | 0, m, ν, _, h, _ => by omega
  | f + 1, m, ν, hm, h, r => by
    obtain ⟨r1, r2, r3⟩ := r
    have st := st0.fr r1
    simp only [k_M_tries_31]
    by_cases q : m = N
    · subst q
      rw [if_pos (nI_le (Nat.le_refl _) (by omega))]
      exact ⟨ν, rfl, r1, r2, r3⟩
    · have b12 := bsv_lt w e m
      have sA : ∀ a b x, ST (si ν a b x) := fun _ _ _ => st
      have hr := M_rich_loop st (lsv w e m) (nI N) e (fdv w e m) (nI m) (fun b3 b4 b5 m_ => b_M_tries_87 (k_M_tries_31 27 (nI N) e f) 27 (nI N) e b3 b4 b5 m_) r2 120000 0 (by omega) (by omega)
      rw [if_neg (nI_ge (by omega) (by omega))]
      have hr2 : k_M_tries_43 (fun b3 b4 b5 m_ => b_M_tries_87 (k_M_tries_31 27 (nI N) e f) 27 (nI N) e b3 b4 b5 m_) 27 (nI N) e (fdv w e m) (nI m) 120000 0 1 ν = b_M_tries_87 (k_M_tries_31 27 (nI N) e f) 27 (nI N) e (fdv w e m) (nI m) (nI (bsv w e m)) ν := hr
      rw [hr2]
      unfold b_M_tries_87
      rw [e_gR27_29 st, e_aI50 st (inb_nI b12 (by omega)), cl_nI (by omega), r2 _ b12, e_nm, e_gR27_29 st, e_gR27_29 st, e_aI50 st (inb_nI b12 (by omega)), cl_nI (by omega), r2 _ b12, e_aS50 st (inb_nI b12 (by omega)), cl_nI (by omega), e_gR27_30 (sA _ _ _), e_aS51 (sA _ _ _) (inb_nI (by omega) (by omega)), cl_nI (by omega), nI_1, ← fdv_s]
      refine M_tries_loop st0 w e hN f (m + 1) _ (by omega) (by omega) ⟨r1.tr ((Frsc (by omega)).tr (Frsc (by omega))), ?_, ?_⟩
      · intro j hj
        rw [lsv_s, gi_ne (by omega)]
        by_cases z : j = bsv w e m
        · rw [if_pos z, ← z, gi_eq]
        · rw [if_neg z, gi_ne (by omega)]
          exact r2 j hj
      · intro j hj
        by_cases z : j = m
        · rw [z, gi_eq]
        · rw [gi_ne (by omega), gi_ne (by omega)]
          exact r3 j (by omega)
theorem M_tries {μ : Mem} (st : ST μ) (e : Int32) {N : Nat} (hN : N ≤ 20) : ∃ ν, f_M_tries 27 (nI N) e μ = some (.inl (fdv (gi μ 49) e N), ν) ∧ RM μ (gi μ 49) e N ν := by
  obtain ⟨ν1, a1, a2, a3⟩ := M_cp_loop st (nI N) e (fun b0 b1 b2 m_ => b_M_tries_26 b0 b1 b2 m_) 120000 0 μ (by omega) (by omega) Fr.rf (fun j hj => by omega)
  obtain ⟨ν2, b1, b2⟩ := M_tries_loop st (gi μ 49) e hN 120000 0 ν1 (by omega) (by omega) ⟨a2, a3, fun j hj => by omega⟩
  exact ⟨ν2, Eq.trans a1 b1, b2⟩
theorem wr_4 {n e : Int32} (μ : Mem) (h : n < 1 ∨ ¬ 0 ≤ e) : f_H_wrongLooks n e μ = some (.inl (-4), μ) := by
  unfold f_H_wrongLooks
  by_cases a : n < 1
  · rw [if_pos a]
  · rw [if_neg a, if_neg (h.resolve_left a)]
theorem wr_6 {n e : Int32} (μ : Mem) (h0 : ¬ n < 1) (h1 : 0 ≤ e) (h : 20 < n ∨ ¬ e ≤ 9) : f_H_wrongLooks n e μ = some (.inl (-6), μ) := by
  unfold f_H_wrongLooks b_H_wrongLooks_24
  rw [if_neg h0, if_pos h1]
  by_cases a : 20 < n
  · rw [if_pos a]
  · rw [if_neg a, if_neg (h.resolve_left a)]
theorem wr_0 {n e : Int32} (μ : Mem) (h0 : ¬ n < 1) (h1 : 0 ≤ e) (h2 : ¬ 20 < n) (h3 : e ≤ 9) : f_H_wrongLooks n e μ = some (.inl 0, μ) := by
  unfold f_H_wrongLooks
  rw [if_neg h0, if_pos h1, if_neg h2, if_pos h3]
theorem op_looks {μ : Mem} (i : Inv μ) (n e : Int32) : Opx (f_H_looks 4 n e) (f_M_looks 27 n e) μ := by
  have st := i.1
  have stA : ∀ h k x, ST (si μ h k x) := fun _ _ _ => st
  have stB : ∀ h k x h' k' x', ST (si (si μ h k x) h' k' x') := fun _ _ _ _ _ _ => st
  by_cases n1 : n < 1
  · have hw := wr_4 (n := n) (e := e) μ (Or.inl n1)
    exact Opx.ref (c := -4) i 4 (by decide) (by simp only [f_H_looks, rf_4, hw, e_nm, e_bI, e_bR, e_bV, e_gI4, e_pI4, e_cV4, e_gR4_0, e_gR4_1, e_gR4_2, e_gR4_3, e_gR4_4, e_gR4_5, e_gR4_6, e_gR4_7, e_gR4_8, e_gR4_9, e_gR4_10, e_gR4_11, e_aI5, e_aS5, e_aI6, e_aS6, e_gI7, e_pI7, e_cV7, e_gR7, e_gI8, e_pI8, e_cV8, e_gR8, e_gI9, e_pI9, e_cV9, e_gR9, e_gI10, e_pI10, e_cV10, e_gR10, e_gI11, e_pI11, e_cV11, e_gR11_0, e_aI12, e_aS12, e_gI13, e_pI13, e_cV13, e_gR13_0, e_aI14, e_aS14, e_gI15, e_pI15, e_cV15, e_gI16, e_pI16, e_cV16, e_gR16_0, e_gR16_3, e_gR16_4, e_gR16_5, e_gR16_6, e_aI17, e_aS17, e_aI18, e_aS18, e_aI19, e_aS19, e_zI20, e_zS20, e_aI21, e_aS21, e_gI22, e_pI22, e_cV22, e_gR22_0, e_gR22_1, e_gR22_3, e_aI23, e_aS23, e_aI24, e_aS24, e_aI25, e_aS25, e_aI26, e_aS26, e_gI27, e_pI27, e_cV27, e_gR27_7, e_gR27_8, e_gR27_9, e_gR27_10, e_gR27_11, e_gR27_12, e_gR27_13, e_gR27_14, e_gR27_15, e_gR27_16, e_gR27_17, e_gR27_18, e_gR27_19, e_gR27_20, e_gR27_21, e_gR27_22, e_gR27_23, e_gR27_24, e_gR27_25, e_gR27_26, e_gR27_27, e_gR27_28, e_gR27_29, e_gR27_30, e_gR27_31, e_gR27_32, e_gR27_33, e_gR27_34, e_gR27_35, e_gR27_36, e_gR27_37, e_aI28, e_aS28, e_aI29, e_aS29, e_aI30, e_aS30, e_aI31, e_aS31, e_aI32, e_aS32, e_aI33, e_aS33, e_aI34, e_aS34, e_aI35, e_aS35, e_aI36, e_aS36, e_aI37, e_aS37, e_aI38, e_aS38, e_aI39, e_aS39, e_aI40, e_aS40, e_aI41, e_aS41, e_aI42, e_aS42, e_aI43, e_aS43, e_aI44, e_aS44, e_aI45, e_aS45, e_aI46, e_aS46, e_aI47, e_aS47, e_aI48, e_aS48, e_aI49, e_aS49, e_aI50, e_aS50, e_aI51, e_aS51, e_aI52, e_aS52, e_aI53, e_aS53, e_aI54, e_aS54, e_aI55, e_aS55, e_aI56, e_aS56, e_aI57, e_aS57, e_aI58, e_aS58, st, stA, stB, inb, and_self, if_true, if_false, i32_00, i32_10, i32_m40, i32_m60]) (by simp only [f_M_looks, no_4, b_M_looks_9, n1, e_nm, e_bI, e_bR, e_bV, e_gI4, e_pI4, e_cV4, e_gR4_0, e_gR4_1, e_gR4_2, e_gR4_3, e_gR4_4, e_gR4_5, e_gR4_6, e_gR4_7, e_gR4_8, e_gR4_9, e_gR4_10, e_gR4_11, e_aI5, e_aS5, e_aI6, e_aS6, e_gI7, e_pI7, e_cV7, e_gR7, e_gI8, e_pI8, e_cV8, e_gR8, e_gI9, e_pI9, e_cV9, e_gR9, e_gI10, e_pI10, e_cV10, e_gR10, e_gI11, e_pI11, e_cV11, e_gR11_0, e_aI12, e_aS12, e_gI13, e_pI13, e_cV13, e_gR13_0, e_aI14, e_aS14, e_gI15, e_pI15, e_cV15, e_gI16, e_pI16, e_cV16, e_gR16_0, e_gR16_3, e_gR16_4, e_gR16_5, e_gR16_6, e_aI17, e_aS17, e_aI18, e_aS18, e_aI19, e_aS19, e_zI20, e_zS20, e_aI21, e_aS21, e_gI22, e_pI22, e_cV22, e_gR22_0, e_gR22_1, e_gR22_3, e_aI23, e_aS23, e_aI24, e_aS24, e_aI25, e_aS25, e_aI26, e_aS26, e_gI27, e_pI27, e_cV27, e_gR27_7, e_gR27_8, e_gR27_9, e_gR27_10, e_gR27_11, e_gR27_12, e_gR27_13, e_gR27_14, e_gR27_15, e_gR27_16, e_gR27_17, e_gR27_18, e_gR27_19, e_gR27_20, e_gR27_21, e_gR27_22, e_gR27_23, e_gR27_24, e_gR27_25, e_gR27_26, e_gR27_27, e_gR27_28, e_gR27_29, e_gR27_30, e_gR27_31, e_gR27_32, e_gR27_33, e_gR27_34, e_gR27_35, e_gR27_36, e_gR27_37, e_aI28, e_aS28, e_aI29, e_aS29, e_aI30, e_aS30, e_aI31, e_aS31, e_aI32, e_aS32, e_aI33, e_aS33, e_aI34, e_aS34, e_aI35, e_aS35, e_aI36, e_aS36, e_aI37, e_aS37, e_aI38, e_aS38, e_aI39, e_aS39, e_aI40, e_aS40, e_aI41, e_aS41, e_aI42, e_aS42, e_aI43, e_aS43, e_aI44, e_aS44, e_aI45, e_aS45, e_aI46, e_aS46, e_aI47, e_aS47, e_aI48, e_aS48, e_aI49, e_aS49, e_aI50, e_aS50, e_aI51, e_aS51, e_aI52, e_aS52, e_aI53, e_aS53, e_aI54, e_aS54, e_aI55, e_aS55, e_aI56, e_aS56, e_aI57, e_aS57, e_aI58, e_aS58, st, stA, stB, inb, and_self, if_true, if_false, i32_00, i32_10, i32_m40, i32_m60])
  by_cases e0 : 0 ≤ e
  · by_cases n20 : 20 < n
    · have hw := wr_6 μ n1 e0 (Or.inl n20)
      exact Opx.ref (c := -6) i 6 (by decide) (by simp only [f_H_looks, rf_6, hw, e_nm, e_bI, e_bR, e_bV, e_gI4, e_pI4, e_cV4, e_gR4_0, e_gR4_1, e_gR4_2, e_gR4_3, e_gR4_4, e_gR4_5, e_gR4_6, e_gR4_7, e_gR4_8, e_gR4_9, e_gR4_10, e_gR4_11, e_aI5, e_aS5, e_aI6, e_aS6, e_gI7, e_pI7, e_cV7, e_gR7, e_gI8, e_pI8, e_cV8, e_gR8, e_gI9, e_pI9, e_cV9, e_gR9, e_gI10, e_pI10, e_cV10, e_gR10, e_gI11, e_pI11, e_cV11, e_gR11_0, e_aI12, e_aS12, e_gI13, e_pI13, e_cV13, e_gR13_0, e_aI14, e_aS14, e_gI15, e_pI15, e_cV15, e_gI16, e_pI16, e_cV16, e_gR16_0, e_gR16_3, e_gR16_4, e_gR16_5, e_gR16_6, e_aI17, e_aS17, e_aI18, e_aS18, e_aI19, e_aS19, e_zI20, e_zS20, e_aI21, e_aS21, e_gI22, e_pI22, e_cV22, e_gR22_0, e_gR22_1, e_gR22_3, e_aI23, e_aS23, e_aI24, e_aS24, e_aI25, e_aS25, e_aI26, e_aS26, e_gI27, e_pI27, e_cV27, e_gR27_7, e_gR27_8, e_gR27_9, e_gR27_10, e_gR27_11, e_gR27_12, e_gR27_13, e_gR27_14, e_gR27_15, e_gR27_16, e_gR27_17, e_gR27_18, e_gR27_19, e_gR27_20, e_gR27_21, e_gR27_22, e_gR27_23, e_gR27_24, e_gR27_25, e_gR27_26, e_gR27_27, e_gR27_28, e_gR27_29, e_gR27_30, e_gR27_31, e_gR27_32, e_gR27_33, e_gR27_34, e_gR27_35, e_gR27_36, e_gR27_37, e_aI28, e_aS28, e_aI29, e_aS29, e_aI30, e_aS30, e_aI31, e_aS31, e_aI32, e_aS32, e_aI33, e_aS33, e_aI34, e_aS34, e_aI35, e_aS35, e_aI36, e_aS36, e_aI37, e_aS37, e_aI38, e_aS38, e_aI39, e_aS39, e_aI40, e_aS40, e_aI41, e_aS41, e_aI42, e_aS42, e_aI43, e_aS43, e_aI44, e_aS44, e_aI45, e_aS45, e_aI46, e_aS46, e_aI47, e_aS47, e_aI48, e_aS48, e_aI49, e_aS49, e_aI50, e_aS50, e_aI51, e_aS51, e_aI52, e_aS52, e_aI53, e_aS53, e_aI54, e_aS54, e_aI55, e_aS55, e_aI56, e_aS56, e_aI57, e_aS57, e_aI58, e_aS58, st, stA, stB, inb, and_self, if_true, if_false, i32_00, i32_10, i32_m40, i32_m60]) (by simp only [f_M_looks, no_6, b_M_looks_28, n1, e0, n20, e_nm, e_bI, e_bR, e_bV, e_gI4, e_pI4, e_cV4, e_gR4_0, e_gR4_1, e_gR4_2, e_gR4_3, e_gR4_4, e_gR4_5, e_gR4_6, e_gR4_7, e_gR4_8, e_gR4_9, e_gR4_10, e_gR4_11, e_aI5, e_aS5, e_aI6, e_aS6, e_gI7, e_pI7, e_cV7, e_gR7, e_gI8, e_pI8, e_cV8, e_gR8, e_gI9, e_pI9, e_cV9, e_gR9, e_gI10, e_pI10, e_cV10, e_gR10, e_gI11, e_pI11, e_cV11, e_gR11_0, e_aI12, e_aS12, e_gI13, e_pI13, e_cV13, e_gR13_0, e_aI14, e_aS14, e_gI15, e_pI15, e_cV15, e_gI16, e_pI16, e_cV16, e_gR16_0, e_gR16_3, e_gR16_4, e_gR16_5, e_gR16_6, e_aI17, e_aS17, e_aI18, e_aS18, e_aI19, e_aS19, e_zI20, e_zS20, e_aI21, e_aS21, e_gI22, e_pI22, e_cV22, e_gR22_0, e_gR22_1, e_gR22_3, e_aI23, e_aS23, e_aI24, e_aS24, e_aI25, e_aS25, e_aI26, e_aS26, e_gI27, e_pI27, e_cV27, e_gR27_7, e_gR27_8, e_gR27_9, e_gR27_10, e_gR27_11, e_gR27_12, e_gR27_13, e_gR27_14, e_gR27_15, e_gR27_16, e_gR27_17, e_gR27_18, e_gR27_19, e_gR27_20, e_gR27_21, e_gR27_22, e_gR27_23, e_gR27_24, e_gR27_25, e_gR27_26, e_gR27_27, e_gR27_28, e_gR27_29, e_gR27_30, e_gR27_31, e_gR27_32, e_gR27_33, e_gR27_34, e_gR27_35, e_gR27_36, e_gR27_37, e_aI28, e_aS28, e_aI29, e_aS29, e_aI30, e_aS30, e_aI31, e_aS31, e_aI32, e_aS32, e_aI33, e_aS33, e_aI34, e_aS34, e_aI35, e_aS35, e_aI36, e_aS36, e_aI37, e_aS37, e_aI38, e_aS38, e_aI39, e_aS39, e_aI40, e_aS40, e_aI41, e_aS41, e_aI42, e_aS42, e_aI43, e_aS43, e_aI44, e_aS44, e_aI45, e_aS45, e_aI46, e_aS46, e_aI47, e_aS47, e_aI48, e_aS48, e_aI49, e_aS49, e_aI50, e_aS50, e_aI51, e_aS51, e_aI52, e_aS52, e_aI53, e_aS53, e_aI54, e_aS54, e_aI55, e_aS55, e_aI56, e_aS56, e_aI57, e_aS57, e_aI58, e_aS58, st, stA, stB, inb, and_self, if_true, if_false, i32_00, i32_10, i32_m40, i32_m60])
    · by_cases e9 : e ≤ 9
      · have hw := wr_0 μ n1 e0 n20 e9
        obtain ⟨N, hN, rfl⟩ : ∃ N, N < 21 ∧ n = nI N := of_rng (by rw [i32_lt] at n1 ⊢; simp at n1 ⊢; omega) (by rw [i32_lt] at n20; simp at n20; omega)
        obtain ⟨ν, p1, p2⟩ := S_plan st i.2.2.2.2.2.2.1 e (N := N) (by omega)
        have sv := st.fr p2.1
        obtain ⟨ν2, q1, q2⟩ := M_tries sv e (N := N) (by omega)
        have e49 : gi ν 49 = gi μ 49 := funext fun j => p2.1.2 _ _ (by omega)
        rw [e49] at q1 q2
        refine ⟨fdv (gi μ 49) e N, ν, ν2, ?_, sv, ?_, (i.sc p2.1).sc q2.1⟩
        · unfold f_H_looks
          rw [hw, e_bI, if_pos rfl, e_gR4_10 st, e_cV22 st, p1, e_bV, e_gR4_10 sv, e_gI22 sv, p2.2.2.2]
        · unfold f_M_looks
          rw [if_neg n1, if_pos e0, if_neg n20, if_pos e9, e_cV27 sv, q1, e_bI]
      · have hw := wr_6 μ n1 e0 (Or.inr e9)
        exact Opx.ref (c := -6) i 6 (by decide) (by simp only [f_H_looks, rf_6, hw, e_nm, e_bI, e_bR, e_bV, e_gI4, e_pI4, e_cV4, e_gR4_0, e_gR4_1, e_gR4_2, e_gR4_3, e_gR4_4, e_gR4_5, e_gR4_6, e_gR4_7, e_gR4_8, e_gR4_9, e_gR4_10, e_gR4_11, e_aI5, e_aS5, e_aI6, e_aS6, e_gI7, e_pI7, e_cV7, e_gR7, e_gI8, e_pI8, e_cV8, e_gR8, e_gI9, e_pI9, e_cV9, e_gR9, e_gI10, e_pI10, e_cV10, e_gR10, e_gI11, e_pI11, e_cV11, e_gR11_0, e_aI12, e_aS12, e_gI13, e_pI13, e_cV13, e_gR13_0, e_aI14, e_aS14, e_gI15, e_pI15, e_cV15, e_gI16, e_pI16, e_cV16, e_gR16_0, e_gR16_3, e_gR16_4, e_gR16_5, e_gR16_6, e_aI17, e_aS17, e_aI18, e_aS18, e_aI19, e_aS19, e_zI20, e_zS20, e_aI21, e_aS21, e_gI22, e_pI22, e_cV22, e_gR22_0, e_gR22_1, e_gR22_3, e_aI23, e_aS23, e_aI24, e_aS24, e_aI25, e_aS25, e_aI26, e_aS26, e_gI27, e_pI27, e_cV27, e_gR27_7, e_gR27_8, e_gR27_9, e_gR27_10, e_gR27_11, e_gR27_12, e_gR27_13, e_gR27_14, e_gR27_15, e_gR27_16, e_gR27_17, e_gR27_18, e_gR27_19, e_gR27_20, e_gR27_21, e_gR27_22, e_gR27_23, e_gR27_24, e_gR27_25, e_gR27_26, e_gR27_27, e_gR27_28, e_gR27_29, e_gR27_30, e_gR27_31, e_gR27_32, e_gR27_33, e_gR27_34, e_gR27_35, e_gR27_36, e_gR27_37, e_aI28, e_aS28, e_aI29, e_aS29, e_aI30, e_aS30, e_aI31, e_aS31, e_aI32, e_aS32, e_aI33, e_aS33, e_aI34, e_aS34, e_aI35, e_aS35, e_aI36, e_aS36, e_aI37, e_aS37, e_aI38, e_aS38, e_aI39, e_aS39, e_aI40, e_aS40, e_aI41, e_aS41, e_aI42, e_aS42, e_aI43, e_aS43, e_aI44, e_aS44, e_aI45, e_aS45, e_aI46, e_aS46, e_aI47, e_aS47, e_aI48, e_aS48, e_aI49, e_aS49, e_aI50, e_aS50, e_aI51, e_aS51, e_aI52, e_aS52, e_aI53, e_aS53, e_aI54, e_aS54, e_aI55, e_aS55, e_aI56, e_aS56, e_aI57, e_aS57, e_aI58, e_aS58, st, stA, stB, inb, and_self, if_true, if_false, i32_00, i32_10, i32_m40, i32_m60]) (by simp only [f_M_looks, no_6, b_M_looks_28, n1, e0, n20, e9, e_nm, e_bI, e_bR, e_bV, e_gI4, e_pI4, e_cV4, e_gR4_0, e_gR4_1, e_gR4_2, e_gR4_3, e_gR4_4, e_gR4_5, e_gR4_6, e_gR4_7, e_gR4_8, e_gR4_9, e_gR4_10, e_gR4_11, e_aI5, e_aS5, e_aI6, e_aS6, e_gI7, e_pI7, e_cV7, e_gR7, e_gI8, e_pI8, e_cV8, e_gR8, e_gI9, e_pI9, e_cV9, e_gR9, e_gI10, e_pI10, e_cV10, e_gR10, e_gI11, e_pI11, e_cV11, e_gR11_0, e_aI12, e_aS12, e_gI13, e_pI13, e_cV13, e_gR13_0, e_aI14, e_aS14, e_gI15, e_pI15, e_cV15, e_gI16, e_pI16, e_cV16, e_gR16_0, e_gR16_3, e_gR16_4, e_gR16_5, e_gR16_6, e_aI17, e_aS17, e_aI18, e_aS18, e_aI19, e_aS19, e_zI20, e_zS20, e_aI21, e_aS21, e_gI22, e_pI22, e_cV22, e_gR22_0, e_gR22_1, e_gR22_3, e_aI23, e_aS23, e_aI24, e_aS24, e_aI25, e_aS25, e_aI26, e_aS26, e_gI27, e_pI27, e_cV27, e_gR27_7, e_gR27_8, e_gR27_9, e_gR27_10, e_gR27_11, e_gR27_12, e_gR27_13, e_gR27_14, e_gR27_15, e_gR27_16, e_gR27_17, e_gR27_18, e_gR27_19, e_gR27_20, e_gR27_21, e_gR27_22, e_gR27_23, e_gR27_24, e_gR27_25, e_gR27_26, e_gR27_27, e_gR27_28, e_gR27_29, e_gR27_30, e_gR27_31, e_gR27_32, e_gR27_33, e_gR27_34, e_gR27_35, e_gR27_36, e_gR27_37, e_aI28, e_aS28, e_aI29, e_aS29, e_aI30, e_aS30, e_aI31, e_aS31, e_aI32, e_aS32, e_aI33, e_aS33, e_aI34, e_aS34, e_aI35, e_aS35, e_aI36, e_aS36, e_aI37, e_aS37, e_aI38, e_aS38, e_aI39, e_aS39, e_aI40, e_aS40, e_aI41, e_aS41, e_aI42, e_aS42, e_aI43, e_aS43, e_aI44, e_aS44, e_aI45, e_aS45, e_aI46, e_aS46, e_aI47, e_aS47, e_aI48, e_aS48, e_aI49, e_aS49, e_aI50, e_aS50, e_aI51, e_aS51, e_aI52, e_aS52, e_aI53, e_aS53, e_aI54, e_aS54, e_aI55, e_aS55, e_aI56, e_aS56, e_aI57, e_aS57, e_aI58, e_aS58, st, stA, stB, inb, and_self, if_true, if_false, i32_00, i32_10, i32_m40, i32_m60])
  · have hw := wr_4 (n := n) (e := e) μ (Or.inr e0)
    exact Opx.ref (c := -4) i 4 (by decide) (by simp only [f_H_looks, rf_4, hw, e_nm, e_bI, e_bR, e_bV, e_gI4, e_pI4, e_cV4, e_gR4_0, e_gR4_1, e_gR4_2, e_gR4_3, e_gR4_4, e_gR4_5, e_gR4_6, e_gR4_7, e_gR4_8, e_gR4_9, e_gR4_10, e_gR4_11, e_aI5, e_aS5, e_aI6, e_aS6, e_gI7, e_pI7, e_cV7, e_gR7, e_gI8, e_pI8, e_cV8, e_gR8, e_gI9, e_pI9, e_cV9, e_gR9, e_gI10, e_pI10, e_cV10, e_gR10, e_gI11, e_pI11, e_cV11, e_gR11_0, e_aI12, e_aS12, e_gI13, e_pI13, e_cV13, e_gR13_0, e_aI14, e_aS14, e_gI15, e_pI15, e_cV15, e_gI16, e_pI16, e_cV16, e_gR16_0, e_gR16_3, e_gR16_4, e_gR16_5, e_gR16_6, e_aI17, e_aS17, e_aI18, e_aS18, e_aI19, e_aS19, e_zI20, e_zS20, e_aI21, e_aS21, e_gI22, e_pI22, e_cV22, e_gR22_0, e_gR22_1, e_gR22_3, e_aI23, e_aS23, e_aI24, e_aS24, e_aI25, e_aS25, e_aI26, e_aS26, e_gI27, e_pI27, e_cV27, e_gR27_7, e_gR27_8, e_gR27_9, e_gR27_10, e_gR27_11, e_gR27_12, e_gR27_13, e_gR27_14, e_gR27_15, e_gR27_16, e_gR27_17, e_gR27_18, e_gR27_19, e_gR27_20, e_gR27_21, e_gR27_22, e_gR27_23, e_gR27_24, e_gR27_25, e_gR27_26, e_gR27_27, e_gR27_28, e_gR27_29, e_gR27_30, e_gR27_31, e_gR27_32, e_gR27_33, e_gR27_34, e_gR27_35, e_gR27_36, e_gR27_37, e_aI28, e_aS28, e_aI29, e_aS29, e_aI30, e_aS30, e_aI31, e_aS31, e_aI32, e_aS32, e_aI33, e_aS33, e_aI34, e_aS34, e_aI35, e_aS35, e_aI36, e_aS36, e_aI37, e_aS37, e_aI38, e_aS38, e_aI39, e_aS39, e_aI40, e_aS40, e_aI41, e_aS41, e_aI42, e_aS42, e_aI43, e_aS43, e_aI44, e_aS44, e_aI45, e_aS45, e_aI46, e_aS46, e_aI47, e_aS47, e_aI48, e_aS48, e_aI49, e_aS49, e_aI50, e_aS50, e_aI51, e_aS51, e_aI52, e_aS52, e_aI53, e_aS53, e_aI54, e_aS54, e_aI55, e_aS55, e_aI56, e_aS56, e_aI57, e_aS57, e_aI58, e_aS58, st, stA, stB, inb, and_self, if_true, if_false, i32_00, i32_10, i32_m40, i32_m60]) (by simp only [f_M_looks, no_4, b_M_looks_9, n1, e0, e_nm, e_bI, e_bR, e_bV, e_gI4, e_pI4, e_cV4, e_gR4_0, e_gR4_1, e_gR4_2, e_gR4_3, e_gR4_4, e_gR4_5, e_gR4_6, e_gR4_7, e_gR4_8, e_gR4_9, e_gR4_10, e_gR4_11, e_aI5, e_aS5, e_aI6, e_aS6, e_gI7, e_pI7, e_cV7, e_gR7, e_gI8, e_pI8, e_cV8, e_gR8, e_gI9, e_pI9, e_cV9, e_gR9, e_gI10, e_pI10, e_cV10, e_gR10, e_gI11, e_pI11, e_cV11, e_gR11_0, e_aI12, e_aS12, e_gI13, e_pI13, e_cV13, e_gR13_0, e_aI14, e_aS14, e_gI15, e_pI15, e_cV15, e_gI16, e_pI16, e_cV16, e_gR16_0, e_gR16_3, e_gR16_4, e_gR16_5, e_gR16_6, e_aI17, e_aS17, e_aI18, e_aS18, e_aI19, e_aS19, e_zI20, e_zS20, e_aI21, e_aS21, e_gI22, e_pI22, e_cV22, e_gR22_0, e_gR22_1, e_gR22_3, e_aI23, e_aS23, e_aI24, e_aS24, e_aI25, e_aS25, e_aI26, e_aS26, e_gI27, e_pI27, e_cV27, e_gR27_7, e_gR27_8, e_gR27_9, e_gR27_10, e_gR27_11, e_gR27_12, e_gR27_13, e_gR27_14, e_gR27_15, e_gR27_16, e_gR27_17, e_gR27_18, e_gR27_19, e_gR27_20, e_gR27_21, e_gR27_22, e_gR27_23, e_gR27_24, e_gR27_25, e_gR27_26, e_gR27_27, e_gR27_28, e_gR27_29, e_gR27_30, e_gR27_31, e_gR27_32, e_gR27_33, e_gR27_34, e_gR27_35, e_gR27_36, e_gR27_37, e_aI28, e_aS28, e_aI29, e_aS29, e_aI30, e_aS30, e_aI31, e_aS31, e_aI32, e_aS32, e_aI33, e_aS33, e_aI34, e_aS34, e_aI35, e_aS35, e_aI36, e_aS36, e_aI37, e_aS37, e_aI38, e_aS38, e_aI39, e_aS39, e_aI40, e_aS40, e_aI41, e_aS41, e_aI42, e_aS42, e_aI43, e_aS43, e_aI44, e_aS44, e_aI45, e_aS45, e_aI46, e_aS46, e_aI47, e_aS47, e_aI48, e_aS48, e_aI49, e_aS49, e_aI50, e_aS50, e_aI51, e_aS51, e_aI52, e_aS52, e_aI53, e_aS53, e_aI54, e_aS54, e_aI55, e_aS55, e_aI56, e_aS56, e_aI57, e_aS57, e_aI58, e_aS58, st, stA, stB, inb, and_self, if_true, if_false, i32_00, i32_10, i32_m40, i32_m60])
theorem op_lookAt {μ : Mem} (i : Inv μ) (n e a : Int32) : Opx (f_H_lookAt 4 n e a) (f_M_lookAt 27 n e a) μ := by
  have st := i.1
  have stA : ∀ h k x, ST (si μ h k x) := fun _ _ _ => st
  have stB : ∀ h k x h' k' x', ST (si (si μ h k x) h' k' x') := fun _ _ _ _ _ _ => st
  by_cases n1 : n < 1
  · have hw := wr_4 (n := n) (e := e) μ (Or.inl n1)
    exact Opx.ref (c := -4) i 4 (by decide) (by simp only [f_H_lookAt, rf_4, hw, e_nm, e_bI, e_bR, e_bV, e_gI4, e_pI4, e_cV4, e_gR4_0, e_gR4_1, e_gR4_2, e_gR4_3, e_gR4_4, e_gR4_5, e_gR4_6, e_gR4_7, e_gR4_8, e_gR4_9, e_gR4_10, e_gR4_11, e_aI5, e_aS5, e_aI6, e_aS6, e_gI7, e_pI7, e_cV7, e_gR7, e_gI8, e_pI8, e_cV8, e_gR8, e_gI9, e_pI9, e_cV9, e_gR9, e_gI10, e_pI10, e_cV10, e_gR10, e_gI11, e_pI11, e_cV11, e_gR11_0, e_aI12, e_aS12, e_gI13, e_pI13, e_cV13, e_gR13_0, e_aI14, e_aS14, e_gI15, e_pI15, e_cV15, e_gI16, e_pI16, e_cV16, e_gR16_0, e_gR16_3, e_gR16_4, e_gR16_5, e_gR16_6, e_aI17, e_aS17, e_aI18, e_aS18, e_aI19, e_aS19, e_zI20, e_zS20, e_aI21, e_aS21, e_gI22, e_pI22, e_cV22, e_gR22_0, e_gR22_1, e_gR22_3, e_aI23, e_aS23, e_aI24, e_aS24, e_aI25, e_aS25, e_aI26, e_aS26, e_gI27, e_pI27, e_cV27, e_gR27_7, e_gR27_8, e_gR27_9, e_gR27_10, e_gR27_11, e_gR27_12, e_gR27_13, e_gR27_14, e_gR27_15, e_gR27_16, e_gR27_17, e_gR27_18, e_gR27_19, e_gR27_20, e_gR27_21, e_gR27_22, e_gR27_23, e_gR27_24, e_gR27_25, e_gR27_26, e_gR27_27, e_gR27_28, e_gR27_29, e_gR27_30, e_gR27_31, e_gR27_32, e_gR27_33, e_gR27_34, e_gR27_35, e_gR27_36, e_gR27_37, e_aI28, e_aS28, e_aI29, e_aS29, e_aI30, e_aS30, e_aI31, e_aS31, e_aI32, e_aS32, e_aI33, e_aS33, e_aI34, e_aS34, e_aI35, e_aS35, e_aI36, e_aS36, e_aI37, e_aS37, e_aI38, e_aS38, e_aI39, e_aS39, e_aI40, e_aS40, e_aI41, e_aS41, e_aI42, e_aS42, e_aI43, e_aS43, e_aI44, e_aS44, e_aI45, e_aS45, e_aI46, e_aS46, e_aI47, e_aS47, e_aI48, e_aS48, e_aI49, e_aS49, e_aI50, e_aS50, e_aI51, e_aS51, e_aI52, e_aS52, e_aI53, e_aS53, e_aI54, e_aS54, e_aI55, e_aS55, e_aI56, e_aS56, e_aI57, e_aS57, e_aI58, e_aS58, st, stA, stB, inb, and_self, if_true, if_false, i32_00, i32_10, i32_m40, i32_m60]) (by simp only [f_M_lookAt, no_4, b_M_lookAt_9, n1, e_nm, e_bI, e_bR, e_bV, e_gI4, e_pI4, e_cV4, e_gR4_0, e_gR4_1, e_gR4_2, e_gR4_3, e_gR4_4, e_gR4_5, e_gR4_6, e_gR4_7, e_gR4_8, e_gR4_9, e_gR4_10, e_gR4_11, e_aI5, e_aS5, e_aI6, e_aS6, e_gI7, e_pI7, e_cV7, e_gR7, e_gI8, e_pI8, e_cV8, e_gR8, e_gI9, e_pI9, e_cV9, e_gR9, e_gI10, e_pI10, e_cV10, e_gR10, e_gI11, e_pI11, e_cV11, e_gR11_0, e_aI12, e_aS12, e_gI13, e_pI13, e_cV13, e_gR13_0, e_aI14, e_aS14, e_gI15, e_pI15, e_cV15, e_gI16, e_pI16, e_cV16, e_gR16_0, e_gR16_3, e_gR16_4, e_gR16_5, e_gR16_6, e_aI17, e_aS17, e_aI18, e_aS18, e_aI19, e_aS19, e_zI20, e_zS20, e_aI21, e_aS21, e_gI22, e_pI22, e_cV22, e_gR22_0, e_gR22_1, e_gR22_3, e_aI23, e_aS23, e_aI24, e_aS24, e_aI25, e_aS25, e_aI26, e_aS26, e_gI27, e_pI27, e_cV27, e_gR27_7, e_gR27_8, e_gR27_9, e_gR27_10, e_gR27_11, e_gR27_12, e_gR27_13, e_gR27_14, e_gR27_15, e_gR27_16, e_gR27_17, e_gR27_18, e_gR27_19, e_gR27_20, e_gR27_21, e_gR27_22, e_gR27_23, e_gR27_24, e_gR27_25, e_gR27_26, e_gR27_27, e_gR27_28, e_gR27_29, e_gR27_30, e_gR27_31, e_gR27_32, e_gR27_33, e_gR27_34, e_gR27_35, e_gR27_36, e_gR27_37, e_aI28, e_aS28, e_aI29, e_aS29, e_aI30, e_aS30, e_aI31, e_aS31, e_aI32, e_aS32, e_aI33, e_aS33, e_aI34, e_aS34, e_aI35, e_aS35, e_aI36, e_aS36, e_aI37, e_aS37, e_aI38, e_aS38, e_aI39, e_aS39, e_aI40, e_aS40, e_aI41, e_aS41, e_aI42, e_aS42, e_aI43, e_aS43, e_aI44, e_aS44, e_aI45, e_aS45, e_aI46, e_aS46, e_aI47, e_aS47, e_aI48, e_aS48, e_aI49, e_aS49, e_aI50, e_aS50, e_aI51, e_aS51, e_aI52, e_aS52, e_aI53, e_aS53, e_aI54, e_aS54, e_aI55, e_aS55, e_aI56, e_aS56, e_aI57, e_aS57, e_aI58, e_aS58, st, stA, stB, inb, and_self, if_true, if_false, i32_00, i32_10, i32_m40, i32_m60])
  by_cases e0 : 0 ≤ e
  · by_cases n20 : 20 < n
    · have hw := wr_6 μ n1 e0 (Or.inl n20)
      exact Opx.ref (c := -6) i 6 (by decide) (by simp only [f_H_lookAt, rf_6, hw, e_nm, e_bI, e_bR, e_bV, e_gI4, e_pI4, e_cV4, e_gR4_0, e_gR4_1, e_gR4_2, e_gR4_3, e_gR4_4, e_gR4_5, e_gR4_6, e_gR4_7, e_gR4_8, e_gR4_9, e_gR4_10, e_gR4_11, e_aI5, e_aS5, e_aI6, e_aS6, e_gI7, e_pI7, e_cV7, e_gR7, e_gI8, e_pI8, e_cV8, e_gR8, e_gI9, e_pI9, e_cV9, e_gR9, e_gI10, e_pI10, e_cV10, e_gR10, e_gI11, e_pI11, e_cV11, e_gR11_0, e_aI12, e_aS12, e_gI13, e_pI13, e_cV13, e_gR13_0, e_aI14, e_aS14, e_gI15, e_pI15, e_cV15, e_gI16, e_pI16, e_cV16, e_gR16_0, e_gR16_3, e_gR16_4, e_gR16_5, e_gR16_6, e_aI17, e_aS17, e_aI18, e_aS18, e_aI19, e_aS19, e_zI20, e_zS20, e_aI21, e_aS21, e_gI22, e_pI22, e_cV22, e_gR22_0, e_gR22_1, e_gR22_3, e_aI23, e_aS23, e_aI24, e_aS24, e_aI25, e_aS25, e_aI26, e_aS26, e_gI27, e_pI27, e_cV27, e_gR27_7, e_gR27_8, e_gR27_9, e_gR27_10, e_gR27_11, e_gR27_12, e_gR27_13, e_gR27_14, e_gR27_15, e_gR27_16, e_gR27_17, e_gR27_18, e_gR27_19, e_gR27_20, e_gR27_21, e_gR27_22, e_gR27_23, e_gR27_24, e_gR27_25, e_gR27_26, e_gR27_27, e_gR27_28, e_gR27_29, e_gR27_30, e_gR27_31, e_gR27_32, e_gR27_33, e_gR27_34, e_gR27_35, e_gR27_36, e_gR27_37, e_aI28, e_aS28, e_aI29, e_aS29, e_aI30, e_aS30, e_aI31, e_aS31, e_aI32, e_aS32, e_aI33, e_aS33, e_aI34, e_aS34, e_aI35, e_aS35, e_aI36, e_aS36, e_aI37, e_aS37, e_aI38, e_aS38, e_aI39, e_aS39, e_aI40, e_aS40, e_aI41, e_aS41, e_aI42, e_aS42, e_aI43, e_aS43, e_aI44, e_aS44, e_aI45, e_aS45, e_aI46, e_aS46, e_aI47, e_aS47, e_aI48, e_aS48, e_aI49, e_aS49, e_aI50, e_aS50, e_aI51, e_aS51, e_aI52, e_aS52, e_aI53, e_aS53, e_aI54, e_aS54, e_aI55, e_aS55, e_aI56, e_aS56, e_aI57, e_aS57, e_aI58, e_aS58, st, stA, stB, inb, and_self, if_true, if_false, i32_00, i32_10, i32_m40, i32_m60]) (by simp only [f_M_lookAt, no_6, b_M_lookAt_28, n1, e0, n20, e_nm, e_bI, e_bR, e_bV, e_gI4, e_pI4, e_cV4, e_gR4_0, e_gR4_1, e_gR4_2, e_gR4_3, e_gR4_4, e_gR4_5, e_gR4_6, e_gR4_7, e_gR4_8, e_gR4_9, e_gR4_10, e_gR4_11, e_aI5, e_aS5, e_aI6, e_aS6, e_gI7, e_pI7, e_cV7, e_gR7, e_gI8, e_pI8, e_cV8, e_gR8, e_gI9, e_pI9, e_cV9, e_gR9, e_gI10, e_pI10, e_cV10, e_gR10, e_gI11, e_pI11, e_cV11, e_gR11_0, e_aI12, e_aS12, e_gI13, e_pI13, e_cV13, e_gR13_0, e_aI14, e_aS14, e_gI15, e_pI15, e_cV15, e_gI16, e_pI16, e_cV16, e_gR16_0, e_gR16_3, e_gR16_4, e_gR16_5, e_gR16_6, e_aI17, e_aS17, e_aI18, e_aS18, e_aI19, e_aS19, e_zI20, e_zS20, e_aI21, e_aS21, e_gI22, e_pI22, e_cV22, e_gR22_0, e_gR22_1, e_gR22_3, e_aI23, e_aS23, e_aI24, e_aS24, e_aI25, e_aS25, e_aI26, e_aS26, e_gI27, e_pI27, e_cV27, e_gR27_7, e_gR27_8, e_gR27_9, e_gR27_10, e_gR27_11, e_gR27_12, e_gR27_13, e_gR27_14, e_gR27_15, e_gR27_16, e_gR27_17, e_gR27_18, e_gR27_19, e_gR27_20, e_gR27_21, e_gR27_22, e_gR27_23, e_gR27_24, e_gR27_25, e_gR27_26, e_gR27_27, e_gR27_28, e_gR27_29, e_gR27_30, e_gR27_31, e_gR27_32, e_gR27_33, e_gR27_34, e_gR27_35, e_gR27_36, e_gR27_37, e_aI28, e_aS28, e_aI29, e_aS29, e_aI30, e_aS30, e_aI31, e_aS31, e_aI32, e_aS32, e_aI33, e_aS33, e_aI34, e_aS34, e_aI35, e_aS35, e_aI36, e_aS36, e_aI37, e_aS37, e_aI38, e_aS38, e_aI39, e_aS39, e_aI40, e_aS40, e_aI41, e_aS41, e_aI42, e_aS42, e_aI43, e_aS43, e_aI44, e_aS44, e_aI45, e_aS45, e_aI46, e_aS46, e_aI47, e_aS47, e_aI48, e_aS48, e_aI49, e_aS49, e_aI50, e_aS50, e_aI51, e_aS51, e_aI52, e_aS52, e_aI53, e_aS53, e_aI54, e_aS54, e_aI55, e_aS55, e_aI56, e_aS56, e_aI57, e_aS57, e_aI58, e_aS58, st, stA, stB, inb, and_self, if_true, if_false, i32_00, i32_10, i32_m40, i32_m60])
    · by_cases e9 : e ≤ 9
      · have hw := wr_0 μ n1 e0 n20 e9
        obtain ⟨N, hN, rfl⟩ : ∃ N, N < 21 ∧ n = nI N := of_rng (by rw [i32_lt] at n1 ⊢; simp at n1 ⊢; omega) (by rw [i32_lt] at n20; simp at n20; omega)
        by_cases a0 : a < 0
        · refine Opx.rd (-9) i ?_ ?_
          · unfold f_H_lookAt
            rw [hw, e_bI, if_pos rfl, if_pos a0]
          · unfold f_M_lookAt
            rw [if_neg n1, if_pos e0, if_neg n20, if_pos e9, if_pos a0]
        by_cases a1 : a < nI N
        · obtain ⟨k, hk, rfl⟩ : ∃ k, k < N ∧ a = nI k := of_rng a0 (by rw [i32_lt, ti_nI (by omega)] at a1; exact a1)
          obtain ⟨ν, p1, p2⟩ := S_plan st i.2.2.2.2.2.2.1 e (N := N) (by omega)
          have sv := st.fr p2.1
          obtain ⟨ν2, q1, q2⟩ := M_tries sv e (N := N) (by omega)
          have sw := sv.fr q2.1
          have e49 : gi ν 49 = gi μ 49 := funext fun j => p2.1.2 _ _ (by omega)
          rw [e49] at q1 q2
          refine ⟨nI (bsv (gi μ 49) e k), ν, ν2, ?_, sv, ?_, (i.sc p2.1).sc q2.1⟩
          · unfold f_H_lookAt
            rw [hw, e_bI, if_pos rfl, if_neg a0, if_pos a1, e_gR4_10 st, e_cV22 st, p1, e_bV, e_gR4_10 sv, e_gR22_1 sv, e_aI24 sv (inb_nI (by omega) (by omega)), cl_nI (by omega), p2.2.2.1 k hk]
          · unfold f_M_lookAt
            rw [if_neg n1, if_pos e0, if_neg n20, if_pos e9, if_neg a0, if_pos a1, e_cV27 sv, q1, e_bI, e_gR27_30 sw, e_aI51 sw (inb_nI (by omega) (by omega)), cl_nI (by omega), q2.2.2 k hk]
        · refine Opx.rd (-9) i ?_ ?_
          · unfold f_H_lookAt
            rw [hw, e_bI, if_pos rfl, if_neg a0, if_neg a1]
          · unfold f_M_lookAt
            rw [if_neg n1, if_pos e0, if_neg n20, if_pos e9, if_neg a0, if_neg a1]
      · have hw := wr_6 μ n1 e0 (Or.inr e9)
        exact Opx.ref (c := -6) i 6 (by decide) (by simp only [f_H_lookAt, rf_6, hw, e_nm, e_bI, e_bR, e_bV, e_gI4, e_pI4, e_cV4, e_gR4_0, e_gR4_1, e_gR4_2, e_gR4_3, e_gR4_4, e_gR4_5, e_gR4_6, e_gR4_7, e_gR4_8, e_gR4_9, e_gR4_10, e_gR4_11, e_aI5, e_aS5, e_aI6, e_aS6, e_gI7, e_pI7, e_cV7, e_gR7, e_gI8, e_pI8, e_cV8, e_gR8, e_gI9, e_pI9, e_cV9, e_gR9, e_gI10, e_pI10, e_cV10, e_gR10, e_gI11, e_pI11, e_cV11, e_gR11_0, e_aI12, e_aS12, e_gI13, e_pI13, e_cV13, e_gR13_0, e_aI14, e_aS14, e_gI15, e_pI15, e_cV15, e_gI16, e_pI16, e_cV16, e_gR16_0, e_gR16_3, e_gR16_4, e_gR16_5, e_gR16_6, e_aI17, e_aS17, e_aI18, e_aS18, e_aI19, e_aS19, e_zI20, e_zS20, e_aI21, e_aS21, e_gI22, e_pI22, e_cV22, e_gR22_0, e_gR22_1, e_gR22_3, e_aI23, e_aS23, e_aI24, e_aS24, e_aI25, e_aS25, e_aI26, e_aS26, e_gI27, e_pI27, e_cV27, e_gR27_7, e_gR27_8, e_gR27_9, e_gR27_10, e_gR27_11, e_gR27_12, e_gR27_13, e_gR27_14, e_gR27_15, e_gR27_16, e_gR27_17, e_gR27_18, e_gR27_19, e_gR27_20, e_gR27_21, e_gR27_22, e_gR27_23, e_gR27_24, e_gR27_25, e_gR27_26, e_gR27_27, e_gR27_28, e_gR27_29, e_gR27_30, e_gR27_31, e_gR27_32, e_gR27_33, e_gR27_34, e_gR27_35, e_gR27_36, e_gR27_37, e_aI28, e_aS28, e_aI29, e_aS29, e_aI30, e_aS30, e_aI31, e_aS31, e_aI32, e_aS32, e_aI33, e_aS33, e_aI34, e_aS34, e_aI35, e_aS35, e_aI36, e_aS36, e_aI37, e_aS37, e_aI38, e_aS38, e_aI39, e_aS39, e_aI40, e_aS40, e_aI41, e_aS41, e_aI42, e_aS42, e_aI43, e_aS43, e_aI44, e_aS44, e_aI45, e_aS45, e_aI46, e_aS46, e_aI47, e_aS47, e_aI48, e_aS48, e_aI49, e_aS49, e_aI50, e_aS50, e_aI51, e_aS51, e_aI52, e_aS52, e_aI53, e_aS53, e_aI54, e_aS54, e_aI55, e_aS55, e_aI56, e_aS56, e_aI57, e_aS57, e_aI58, e_aS58, st, stA, stB, inb, and_self, if_true, if_false, i32_00, i32_10, i32_m40, i32_m60]) (by simp only [f_M_lookAt, no_6, b_M_lookAt_28, n1, e0, n20, e9, e_nm, e_bI, e_bR, e_bV, e_gI4, e_pI4, e_cV4, e_gR4_0, e_gR4_1, e_gR4_2, e_gR4_3, e_gR4_4, e_gR4_5, e_gR4_6, e_gR4_7, e_gR4_8, e_gR4_9, e_gR4_10, e_gR4_11, e_aI5, e_aS5, e_aI6, e_aS6, e_gI7, e_pI7, e_cV7, e_gR7, e_gI8, e_pI8, e_cV8, e_gR8, e_gI9, e_pI9, e_cV9, e_gR9, e_gI10, e_pI10, e_cV10, e_gR10, e_gI11, e_pI11, e_cV11, e_gR11_0, e_aI12, e_aS12, e_gI13, e_pI13, e_cV13, e_gR13_0, e_aI14, e_aS14, e_gI15, e_pI15, e_cV15, e_gI16, e_pI16, e_cV16, e_gR16_0, e_gR16_3, e_gR16_4, e_gR16_5, e_gR16_6, e_aI17, e_aS17, e_aI18, e_aS18, e_aI19, e_aS19, e_zI20, e_zS20, e_aI21, e_aS21, e_gI22, e_pI22, e_cV22, e_gR22_0, e_gR22_1, e_gR22_3, e_aI23, e_aS23, e_aI24, e_aS24, e_aI25, e_aS25, e_aI26, e_aS26, e_gI27, e_pI27, e_cV27, e_gR27_7, e_gR27_8, e_gR27_9, e_gR27_10, e_gR27_11, e_gR27_12, e_gR27_13, e_gR27_14, e_gR27_15, e_gR27_16, e_gR27_17, e_gR27_18, e_gR27_19, e_gR27_20, e_gR27_21, e_gR27_22, e_gR27_23, e_gR27_24, e_gR27_25, e_gR27_26, e_gR27_27, e_gR27_28, e_gR27_29, e_gR27_30, e_gR27_31, e_gR27_32, e_gR27_33, e_gR27_34, e_gR27_35, e_gR27_36, e_gR27_37, e_aI28, e_aS28, e_aI29, e_aS29, e_aI30, e_aS30, e_aI31, e_aS31, e_aI32, e_aS32, e_aI33, e_aS33, e_aI34, e_aS34, e_aI35, e_aS35, e_aI36, e_aS36, e_aI37, e_aS37, e_aI38, e_aS38, e_aI39, e_aS39, e_aI40, e_aS40, e_aI41, e_aS41, e_aI42, e_aS42, e_aI43, e_aS43, e_aI44, e_aS44, e_aI45, e_aS45, e_aI46, e_aS46, e_aI47, e_aS47, e_aI48, e_aS48, e_aI49, e_aS49, e_aI50, e_aS50, e_aI51, e_aS51, e_aI52, e_aS52, e_aI53, e_aS53, e_aI54, e_aS54, e_aI55, e_aS55, e_aI56, e_aS56, e_aI57, e_aS57, e_aI58, e_aS58, st, stA, stB, inb, and_self, if_true, if_false, i32_00, i32_10, i32_m40, i32_m60])
  · have hw := wr_4 (n := n) (e := e) μ (Or.inr e0)
    exact Opx.ref (c := -4) i 4 (by decide) (by simp only [f_H_lookAt, rf_4, hw, e_nm, e_bI, e_bR, e_bV, e_gI4, e_pI4, e_cV4, e_gR4_0, e_gR4_1, e_gR4_2, e_gR4_3, e_gR4_4, e_gR4_5, e_gR4_6, e_gR4_7, e_gR4_8, e_gR4_9, e_gR4_10, e_gR4_11, e_aI5, e_aS5, e_aI6, e_aS6, e_gI7, e_pI7, e_cV7, e_gR7, e_gI8, e_pI8, e_cV8, e_gR8, e_gI9, e_pI9, e_cV9, e_gR9, e_gI10, e_pI10, e_cV10, e_gR10, e_gI11, e_pI11, e_cV11, e_gR11_0, e_aI12, e_aS12, e_gI13, e_pI13, e_cV13, e_gR13_0, e_aI14, e_aS14, e_gI15, e_pI15, e_cV15, e_gI16, e_pI16, e_cV16, e_gR16_0, e_gR16_3, e_gR16_4, e_gR16_5, e_gR16_6, e_aI17, e_aS17, e_aI18, e_aS18, e_aI19, e_aS19, e_zI20, e_zS20, e_aI21, e_aS21, e_gI22, e_pI22, e_cV22, e_gR22_0, e_gR22_1, e_gR22_3, e_aI23, e_aS23, e_aI24, e_aS24, e_aI25, e_aS25, e_aI26, e_aS26, e_gI27, e_pI27, e_cV27, e_gR27_7, e_gR27_8, e_gR27_9, e_gR27_10, e_gR27_11, e_gR27_12, e_gR27_13, e_gR27_14, e_gR27_15, e_gR27_16, e_gR27_17, e_gR27_18, e_gR27_19, e_gR27_20, e_gR27_21, e_gR27_22, e_gR27_23, e_gR27_24, e_gR27_25, e_gR27_26, e_gR27_27, e_gR27_28, e_gR27_29, e_gR27_30, e_gR27_31, e_gR27_32, e_gR27_33, e_gR27_34, e_gR27_35, e_gR27_36, e_gR27_37, e_aI28, e_aS28, e_aI29, e_aS29, e_aI30, e_aS30, e_aI31, e_aS31, e_aI32, e_aS32, e_aI33, e_aS33, e_aI34, e_aS34, e_aI35, e_aS35, e_aI36, e_aS36, e_aI37, e_aS37, e_aI38, e_aS38, e_aI39, e_aS39, e_aI40, e_aS40, e_aI41, e_aS41, e_aI42, e_aS42, e_aI43, e_aS43, e_aI44, e_aS44, e_aI45, e_aS45, e_aI46, e_aS46, e_aI47, e_aS47, e_aI48, e_aS48, e_aI49, e_aS49, e_aI50, e_aS50, e_aI51, e_aS51, e_aI52, e_aS52, e_aI53, e_aS53, e_aI54, e_aS54, e_aI55, e_aS55, e_aI56, e_aS56, e_aI57, e_aS57, e_aI58, e_aS58, st, stA, stB, inb, and_self, if_true, if_false, i32_00, i32_10, i32_m40, i32_m60]) (by simp only [f_M_lookAt, no_4, b_M_lookAt_9, n1, e0, e_nm, e_bI, e_bR, e_bV, e_gI4, e_pI4, e_cV4, e_gR4_0, e_gR4_1, e_gR4_2, e_gR4_3, e_gR4_4, e_gR4_5, e_gR4_6, e_gR4_7, e_gR4_8, e_gR4_9, e_gR4_10, e_gR4_11, e_aI5, e_aS5, e_aI6, e_aS6, e_gI7, e_pI7, e_cV7, e_gR7, e_gI8, e_pI8, e_cV8, e_gR8, e_gI9, e_pI9, e_cV9, e_gR9, e_gI10, e_pI10, e_cV10, e_gR10, e_gI11, e_pI11, e_cV11, e_gR11_0, e_aI12, e_aS12, e_gI13, e_pI13, e_cV13, e_gR13_0, e_aI14, e_aS14, e_gI15, e_pI15, e_cV15, e_gI16, e_pI16, e_cV16, e_gR16_0, e_gR16_3, e_gR16_4, e_gR16_5, e_gR16_6, e_aI17, e_aS17, e_aI18, e_aS18, e_aI19, e_aS19, e_zI20, e_zS20, e_aI21, e_aS21, e_gI22, e_pI22, e_cV22, e_gR22_0, e_gR22_1, e_gR22_3, e_aI23, e_aS23, e_aI24, e_aS24, e_aI25, e_aS25, e_aI26, e_aS26, e_gI27, e_pI27, e_cV27, e_gR27_7, e_gR27_8, e_gR27_9, e_gR27_10, e_gR27_11, e_gR27_12, e_gR27_13, e_gR27_14, e_gR27_15, e_gR27_16, e_gR27_17, e_gR27_18, e_gR27_19, e_gR27_20, e_gR27_21, e_gR27_22, e_gR27_23, e_gR27_24, e_gR27_25, e_gR27_26, e_gR27_27, e_gR27_28, e_gR27_29, e_gR27_30, e_gR27_31, e_gR27_32, e_gR27_33, e_gR27_34, e_gR27_35, e_gR27_36, e_gR27_37, e_aI28, e_aS28, e_aI29, e_aS29, e_aI30, e_aS30, e_aI31, e_aS31, e_aI32, e_aS32, e_aI33, e_aS33, e_aI34, e_aS34, e_aI35, e_aS35, e_aI36, e_aS36, e_aI37, e_aS37, e_aI38, e_aS38, e_aI39, e_aS39, e_aI40, e_aS40, e_aI41, e_aS41, e_aI42, e_aS42, e_aI43, e_aS43, e_aI44, e_aS44, e_aI45, e_aS45, e_aI46, e_aS46, e_aI47, e_aS47, e_aI48, e_aS48, e_aI49, e_aS49, e_aI50, e_aS50, e_aI51, e_aS51, e_aI52, e_aS52, e_aI53, e_aS53, e_aI54, e_aS54, e_aI55, e_aS55, e_aI56, e_aS56, e_aI57, e_aS57, e_aI58, e_aS58, st, stA, stB, inb, and_self, if_true, if_false, i32_00, i32_10, i32_m40, i32_m60])
