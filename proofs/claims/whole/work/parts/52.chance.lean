/-! chance, weak -/
theorem lt_1 (x : Int32) : x < 1 ↔ x ≤ 0 := by rw [i32_lt, i32_le]; simp; omega
theorem lt_2 (x : Int32) : x < 2 ↔ x ≤ 1 := by rw [i32_lt, i32_le]; simp; omega
def cnt (r : Int32) : Int32 := if r / 189 < 2 then r / 189 else r / 189 + irm (r / 27) 7
def stv (r z : Int32) : Int32 := if irm (r / 9) 3 + irm r 3 < 1 then 0 else if irm (r / 3) 3 + irm r 3 < 1 then 0 else if irm (r / 9) 3 + irm (r / 3) 3 + irm r 3 < 2 then 0 else if cnt r < z then 0 else 1
theorem R_stv {μ : Mem} (r z : Int32) : f_R_stands r z μ = some (.inl (stv r z), μ) := by
  have key : ∀ x, x = cnt r → b_R_stands_46 z (irm (r / 9) 3) (irm (r / 3) 3) (irm r 3) x μ = some (.inl (stv r z), μ) := fun x hx => by
    unfold b_R_stands_46 b_R_stands_82 b_R_stands_83 stv
    rw [hx]
    by_cases a : irm (r / 9) 3 + irm r 3 < 1
    · rw [if_pos a, if_pos a, if_pos rfl]
    rw [if_neg a, if_neg a]
    by_cases b : irm (r / 3) 3 + irm r 3 < 1
    · rw [if_pos b, if_pos b, if_pos rfl]
    rw [if_neg b, if_neg b]
    by_cases c : irm (r / 9) 3 + irm (r / 3) 3 + irm r 3 < 2
    · rw [if_pos c, if_pos c, if_pos rfl]
    rw [if_neg c, if_neg c, if_neg (by decide)]
    split <;> rfl
  unfold f_R_stands
  simp only [e_nm]
  by_cases a : r / 189 < 2
  · rw [if_pos a]; exact key _ (by unfold cnt; rw [if_pos a])
  · rw [if_neg a]; exact key _ (by unfold cnt; rw [if_neg a])
theorem M_stv {μ : Mem} (st : ST μ) (r : Int32) : f_M_stands 27 r μ = some (.inl (stv r (gi μ 27 5)), μ) := by
  have key : ∀ x, r / 189 + x = cnt r → b_M_stands_48 27 (irm r 3) (irm (r / 3) 3) (irm (r / 9) 3) x (r / 189) μ = some (.inl (stv r (gi μ 27 5)), μ) := fun x hx => by
    unfold b_M_stands_48 stv
    rw [e_nm, e_gI27 st, hx]
    by_cases d : cnt r < gi μ 27 5
    · rw [if_pos d, if_pos d]
      split
      · rfl
      · split
        · rfl
        · split <;> rfl
    · rw [if_neg d, if_neg d]
      by_cases a : irm (r / 9) 3 + irm r 3 < 1
      · rw [if_pos a, if_pos ((lt_1 _).mp a)]
      rw [if_neg a, if_neg (fun q => a ((lt_1 _).mpr q))]
      by_cases b : irm (r / 3) 3 + irm r 3 < 1
      · rw [if_pos b, if_pos ((lt_1 _).mp b)]
      rw [if_neg b, if_neg (fun q => b ((lt_1 _).mpr q))]
      by_cases c : irm (r / 9) 3 + irm (r / 3) 3 + irm r 3 < 2
      · rw [if_pos c, if_pos ((lt_2 _).mp c)]
      rw [if_neg c, if_neg (fun q => c ((lt_2 _).mpr q))]
  unfold f_M_stands
  simp only [e_nm]
  by_cases a : r / 189 < 2
  · rw [if_pos ((lt_2 _).mp a)]; exact key _ (by unfold cnt; rw [if_pos a, Int32.add_zero])
  · rw [if_neg (fun q => a ((lt_2 _).mpr q))]; exact key _ (by unfold cnt; rw [if_neg a])
def sgv (F : Nat → Int32) (z : Int32) (r : Nat) : Int32 := if stv (nI r) z = 0 then 0 else F r
/-- the rows and the top, after the first p people -/
abbrev cnd (s30 s31 pa : Nat → Int32) (s : Int32) (p : Nat) : Prop := s30 p = s ∧ ¬ (s31 p &&& 7) = 0 ∧ ¬ pa p = 0
def FF (s30 s31 pa : Nat → Int32) (s : Int32) : Nat → Nat → Int32
  | 0 => fun r => if r = 0 then 1048576 else 0
  | p + 1 => if cnd s30 s31 pa s p then nxt (FF s30 s31 pa s p) (s31 p).toNatClampNeg (pa p) else FF s30 s31 pa s p
def TT (s30 s31 pa : Nat → Int32) (s : Int32) : Nat → Nat
  | 0 => 0
  | p + 1 => if cnd s30 s31 pa s p then rwn (TT s30 s31 pa s p) (s31 p).toNatClampNeg else TT s30 s31 pa s p
theorem FF_s (s30 s31 pa : Nat → Int32) (s : Int32) (p : Nat) : FF s30 s31 pa s (p + 1) = if cnd s30 s31 pa s p then nxt (FF s30 s31 pa s p) (s31 p).toNatClampNeg (pa p) else FF s30 s31 pa s p := rfl
theorem TT_s (s30 s31 pa : Nat → Int32) (s : Int32) (p : Nat) : TT s30 s31 pa s (p + 1) = if cnd s30 s31 pa s p then rwn (TT s30 s31 pa s p) (s31 p).toNatClampNeg else TT s30 s31 pa s p := rfl
theorem FT (s30 s31 pa : Nat → Int32) (s : Int32) : ∀ p, TT s30 s31 pa s p < 1323 ∧ ∀ r, r < 1323 → ¬ FF s30 s31 pa s p r = 0 → dle r (TT s30 s31 pa s p)
  | 0 => ⟨by unfold TT; decide, fun r hr h => by
      by_cases e : r = 0
      · subst e; unfold TT dle; decide
      · exact absurd (if_neg e) h⟩
  | p + 1 => by
    obtain ⟨i1, i2⟩ := FT s30 s31 pa s p
    rw [TT_s, FF_s]
    by_cases c : cnd s30 s31 pa s p
    · rw [if_pos c, if_pos c]
      refine ⟨rwn_lt _ _, fun r hr h => ?_⟩
      rcases nxt_ne h with q | ⟨q, q1, q2, q3⟩
      · exact dle_tr (i2 r hr q) (rwn_dle i1)
      · rw [← q2]
        exact rwn_mono (i2 q q1 q3)
    · rw [if_neg c, if_neg c]
      exact ⟨i1, i2⟩
theorem FZ (s30 s31 pa : Nat → Int32) (s : Int32) (p : Nat) {r : Nat} (hr : r < 1323) (h : TT s30 s31 pa s p < r) : FF s30 s31 pa s p r = 0 := by
  by_cases e : FF s30 s31 pa s p r = 0
  · exact e
  · have := dle_le ((FT s30 s31 pa s p).2 r hr e)
    omega
abbrev SR (h _k : Nat) : Prop := h = 13 ∨ h = 14
abbrev SW (h _k : Nat) : Prop := h = 53 ∨ h = 54
theorem fill14 {μ : Mem} (st0 : ST μ) : ∀ n j ν, j ≤ 1323 → 1323 - j < n → Fr SR μ ν → (∀ r, r < j → gi ν 14 r = 0) → ∃ ν', k_AR_fill_5 14 0 (nI 1323) n (nI j) ν = some (.inl 0, ν') ∧ Fr SR μ ν' ∧ ∀ r, r < 1323 → gi ν' 14 r = 0
  | 0, j, ν, _, h, _, _ => by omega
  | n + 1, j, ν, hj, h, fr, inv => by
    have st := st0.fr fr
    simp only [k_AR_fill_5]
    by_cases q : j = 1323
    · subst q
      rw [if_pos (nI_le (Nat.le_refl _) (by omega))]
      exact ⟨ν, rfl, fr, inv⟩
    · rw [if_neg (nI_ge (by omega) (by omega)), e_aS14 st (inb_nI (by omega) (by omega)), cl_nI (by omega), nI_1]
      refine fill14 st0 n (j + 1) _ (by omega) (by omega) (fr.tr (Fr.si (S := SR) (Or.inr rfl))) (fun r hr => ?_)
      by_cases e : r = j
      · rw [e, gi_eq]
      · rw [gi_ne (by omega)]; exact inv r (by omega)
theorem R_clr {μ : Mem} (st : ST μ) (s30 s31 pa : Nat → Int32) (s : Int32) : ∃ ν, f_R_clear 13 μ = some (.inl 0, ν) ∧ Fr SR μ ν ∧ (∀ r, r < 1323 → gi ν 14 r = FF s30 s31 pa s 0 r) ∧ gi ν 13 1 = nI (TT s30 s31 pa s 0) := by
  obtain ⟨ν, a1, a2, a3⟩ := fill14 st 120000 0 μ (by omega) (by omega) Fr.rf (fun r hr => by omega)
  have sv := st.fr a2
  have sA : ∀ x y w, ST (si ν x y w) := fun _ _ _ => sv
  have hf : f_AR_fill 14 0 μ = some (.inl 0, ν) := by
    unfold f_AR_fill aL
    rw [st_h14 st, if_pos (show (0, 1323).1 < 3 by decide)]
    exact a1
  refine ⟨si (si ν 14 0 1048576) 13 1 0, ?_, a2.tr ((Fr.si (S := SR) (Or.inr rfl)).tr (Fr.si (S := SR) (Or.inl rfl))), fun r hr => ?_, gi_eq _ _ _ _⟩
  · unfold f_R_clear
    rw [e_gR13_0 st, hf, e_bV, e_gR13_0 sv, e_aS14 sv (show inb 0 1323 from inb_nI (p := 0) (by decide) (by decide)), e_pI13 (sA _ _ _)]
    rfl
  · rw [gi_ne (by omega)]
    unfold FF
    by_cases e : r = 0
    · rw [if_pos e, e, gi_eq]
    · rw [if_neg e, gi_ne (by omega)]
      exact a3 r hr
theorem R_may {μ : Mem} (st : ST μ) (f : Nat → Int32) {k t : Nat} (hk : k < 16) (a : Int32) (ht : t < 1323) (e14 : ∀ r, r < 1323 → gi μ 14 r = f r) (e13 : gi μ 13 1 = nI t) (z : ∀ r, r < 1323 → t < r → f r = 0) : ∃ ν, f_R_mayCome 13 (nI k) a μ = some (.inl 0, ν) ∧ Fr SR μ ν ∧ (∀ r, r < 1323 → gi ν 14 r = nxt f k a r) ∧ gi ν 13 1 = nI (rwn t k) := by
  obtain ⟨ν, a1, a2, a3⟩ := R_loop st f hk a (fun b0 b1 m_ => b_R_mayCome_67 b0 b1 m_) 120000 (t + 1) μ (by omega) (by omega) Fr.rf (fun r hr => by
    rw [e14 r hr, smf_zz (ctr f k a r) (a := t + 1) (n := 1323) (by omega) (fun q h1 h2 => ctr_z (z q h2 (by omega)))]
    by_cases q : t + 1 ≤ r
    · rw [if_pos q, cmp_z (z r hr (by omega)), z r hr (by omega), Int32.sub_zero]
    · rw [if_neg q])
  have sv := st.fr a2
  have e13v : gi ν 13 1 = nI t := (a2.2 13 1 (by decide)).trans e13
  refine ⟨si ν 13 1 (nI (rwn t k)), ?_, (a2.up (fun h k q => Or.inr q)).tr (Fr.si (S := SR) (Or.inl rfl)), fun r hr => (gi_ne (by omega)).trans (a3 r hr), gi_eq _ _ _ _⟩
  unfold f_R_mayCome
  rw [e_gI13 st, e13]
  rw [nI_s1] at a1
  refine Eq.trans a1 ?_
  show b_R_mayCome_67 13 (nI k) ν = _
  unfold b_R_mayCome_67
  rw [e_gI13 sv, e13v, R_with, e_bI, (rwn_v k hk t ht).1, e_pI13 sv]
theorem R_stn_loop {μ : Mem} (st : ST μ) (F : Nat → Int32) (z : Int32) {t : Nat} (ht : t < 1323) (e14 : ∀ r, r < 1323 → gi μ 14 r = F r) (e13 : gi μ 13 1 = nI t) : ∀ n k, k ≤ t + 1 → t + 1 - k < n → k_R_standing_4 13 z n (smf (sgv F z) k) (nI k) μ = some (.inl (smf (sgv F z) (t + 1)), μ)
  | 0, k, _, h => by omega
  | n + 1, k, hk, h => by
    simp only [k_R_standing_4]
    rw [e_gI13 st, e13]
    by_cases q : k = t + 1
    · subst q
      rw [if_pos (nI_lt (by omega) (by omega))]
    · have ih := R_stn_loop st F z ht e14 e13 n (k + 1) (by omega) (by omega)
      have ik : inb (nI k) 1323 := inb_nI (by omega) (by omega)
      rw [if_neg (nI_nlt (by omega) (by omega)), e_gR13_0 st, e_aI14 st ik, cl_nI (by omega), e14 k (by omega)]
      rw [smf_s, ← nI_1 k] at ih
      by_cases f0 : F k = 0
      · have g0 : sgv F z k = 0 := by unfold sgv; rw [f0]; split <;> rfl
        rw [g0, Int32.add_zero] at ih
        rw [if_pos f0]
        exact ih
      · rw [if_neg f0, R_stv, e_bI]
        unfold sgv at ih ⊢
        by_cases v : stv (nI k) z = 0
        · rw [if_pos v, Int32.add_zero] at ih
          rw [if_pos v]
          exact ih
        · rw [if_neg v] at ih
          rw [if_neg v, e_gR13_0 st, e_aI14 st ik, cl_nI (by omega), e14 k (by omega), e_nm]
          exact ih
theorem M_stn_loop {μ : Mem} (st : ST μ) (F : Nat → Int32) (e53 : ∀ r, r < 1323 → gi μ 53 r = F r) : ∀ n k, k ≤ 1323 → 1323 - k < n → k_M_chanceOf_253 27 n (smf (sgv F (gi μ 27 5)) k) (nI k) μ = some (.inl (smf (sgv F (gi μ 27 5)) 1323), μ)
  | 0, k, _, h => by omega
  | n + 1, k, hk, h => by
    simp only [k_M_chanceOf_253]
    by_cases q : k = 1323
    · subst q
      rw [if_pos (by decide)]
    · have ih := M_stn_loop st F e53 n (k + 1) (by omega) (by omega)
      have ik : inb (nI k) 1323 := inb_nI (by omega) (by omega)
      rw [if_neg (show ¬ (1323 : Int32) ≤ nI k from nI_ge (b := 1323) (by omega) (by omega)), e_cV27 st, M_stv st, e_bI]
      rw [smf_s, ← nI_1 k] at ih
      unfold sgv at ih ⊢
      by_cases v : stv (nI k) (gi μ 27 5) = 0
      · rw [if_pos v, Int32.add_zero] at ih
        rw [if_pos v]
        exact ih
      · rw [if_neg v] at ih
        rw [if_neg v, e_gR27_32 st, e_aI53 st ik, cl_nI (by omega), e53 k (by omega), e_nm]
        exact ih
/-- all of the chance -/
def chv (s30 s31 pa : Nat → Int32) (s z : Int32) (n : Nat) : Int32 := smf (sgv (FF s30 s31 pa s n) z) 1323
theorem R_stn {μ : Mem} (st : ST μ) (s30 s31 pa : Nat → Int32) (s z : Int32) (n : Nat) (e14 : ∀ r, r < 1323 → gi μ 14 r = FF s30 s31 pa s n r) (e13 : gi μ 13 1 = nI (TT s30 s31 pa s n)) : f_R_standing 13 z μ = some (.inl (chv s30 s31 pa s z n), μ) := by
  have ht := (FT s30 s31 pa s n).1
  have h := R_stn_loop st (FF s30 s31 pa s n) z ht e14 e13 120000 0 (by omega) (by omega)
  unfold f_R_standing chv
  rw [smf_zz (sgv (FF s30 s31 pa s n) z) (a := TT s30 s31 pa s n + 1) (n := 1323) (by omega) (fun q h1 h2 => by
    unfold sgv
    rw [FZ s30 s31 pa s n h2 (by omega)]
    split <;> rfl)]
  exact h
