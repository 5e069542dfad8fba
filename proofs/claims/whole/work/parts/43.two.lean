/-! two -/
theorem nI_inj {a b : Nat} (ha : a < 2147483648) (hb : b < 2147483648) (h : nI a = nI b) : a = b := by
  have := cl_nI ha
  have := cl_nI hb
  rw [h] at *
  omega
def mx (x y : Int32) : Int32 := if x ≤ y then y else x
theorem MA_mx (x y : Int32) (μ : Mem) : f_MA_max x y μ = some (.inl (mx x y), μ) := by
  unfold f_MA_max mx
  by_cases h : x < y
  · rw [if_pos h, if_pos (Int32.le_of_lt h)]
  · rw [if_neg h]
    by_cases e : x ≤ y
    · rw [if_pos e, Int32.le_antisymm e (Int32.not_lt.mp h)]
    · rw [if_neg e]
abbrev S4 := Int32 × Int32 × Int32 × Int32
def offr (s : S4) (i j x y : Int32) : S4 := if s.1 = -9 then (mx x y, x + y, i, j) else if s.1 < mx x y then s else if mx x y = s.1 then (if x + y < s.2.1 then (mx x y, x + y, i, j) else s) else (mx x y, x + y, i, j)
def PS (ν : Mem) (s : S4) : Prop := gi ν 15 0 = s.1 ∧ gi ν 15 3 = s.2.1 ∧ gi ν 15 1 = s.2.2.1 ∧ gi ν 15 2 = s.2.2.2
abbrev S15 (h _k : Nat) : Prop := h = 15
theorem Fr15 {μ : Mem} {k : Nat} {x : Int32} : Fr S15 μ (si μ 15 k x) := Fr.si (S := S15) rfl
theorem offer63 {ν : Mem} (st : ST ν) (i j l t : Int32) : ∃ ν', b_P_offer_63 15 i j l t ν = some (.inl 0, ν') ∧ Fr S15 ν ν' ∧ PS ν' (l, t, i, j) := by
  refine ⟨si (si (si (si ν 15 0 l) 15 3 t) 15 1 i) 15 2 j, ?_, (Fr15.tr Fr15).tr (Fr15.tr Fr15), rfl, rfl, rfl, rfl⟩
  unfold b_P_offer_63
  have sA : ∀ a b x, ST (si ν a b x) := fun _ _ _ => st
  have sB : ∀ a b x a1 b1 x1, ST (si (si ν a b x) a1 b1 x1) := fun _ _ _ _ _ _ => st
  have sC : ∀ a b x a1 b1 x1 a2 b2 x2, ST (si (si (si ν a b x) a1 b1 x1) a2 b2 x2) := fun _ _ _ _ _ _ _ _ _ => st
  rw [e_pI15 st, e_pI15 (sA _ _ _), e_pI15 (sB _ _ _ _ _ _), e_pI15 (sC _ _ _ _ _ _ _ _ _)]
theorem P_off {ν : Mem} {s : S4} (st : ST ν) (ps : PS ν s) (i j x y : Int32) : ∃ ν', f_P_offer 15 i x j y ν = some (.inl 0, ν') ∧ Fr S15 ν ν' ∧ PS ν' (offr s i j x y) := by
  have w := offer63 st i j (mx x y) (x + y)
  have k1 : b_P_offer_41 15 i j (mx x y) (x + y) ν = if s.1 = -9 then b_P_offer_63 15 i j (mx x y) (x + y) ν else some (.inl 0, ν) := by
    unfold b_P_offer_41 b_P_offer_46
    rw [e_gI15 st, ps.1, if_neg (show ¬ (1 : Int32) = 0 by decide)]
  have k2 : b_P_offer_45 15 i j (mx x y) (x + y) ν = b_P_offer_63 15 i j (mx x y) (x + y) ν := by
    unfold b_P_offer_45 b_P_offer_46
    rw [e_gI15 st, if_pos rfl]
    split <;> rfl
  unfold f_P_offer offr
  rw [MA_mx, e_bI, e_nm, e_gI15 st, ps.1, e_gI15 st, ps.1, e_gI15 st, ps.2.1, k1, k2]
  by_cases a : s.1 = -9
  · rw [if_pos a, if_pos a]
    split
    · exact w
    · split
      · split <;> exact w
      · exact w
  · rw [if_neg a, if_neg a]
    split
    · exact ⟨ν, rfl, Fr.rf, ps⟩
    · split
      · split
        · exact w
        · exact ⟨ν, rfl, Fr.rf, ps⟩
      · exact w
def inn (x y : Nat → Int32) (i : Nat) (s : S4) : Nat → S4
  | 0 => s
  | k + 1 => if i = k then inn x y i s k else if x i = -9 then inn x y i s k else if y k = -9 then inn x y i s k else offr (inn x y i s k) (nI i) (nI k) (x i) (y k)
theorem inn_s (x y : Nat → Int32) (i : Nat) (s : S4) (k : Nat) : inn x y i s (k + 1) = if i = k then inn x y i s k else if x i = -9 then inn x y i s k else if y k = -9 then inn x y i s k else offr (inn x y i s k) (nI i) (nI k) (x i) (y k) := rfl
theorem inn_no (x y : Nat → Int32) (i : Nat) (s : S4) (h : x i = -9) : ∀ k, inn x y i s k = s
  | 0 => rfl
  | k + 1 => by
    rw [inn_s, inn_no x y i s h k, if_pos h]
    split <;> rfl
def ott (x y : Nat → Int32) (n : Nat) : Nat → S4
  | 0 => (-9, 0, -9, -9)
  | k + 1 => inn x y k (ott x y n k) n
theorem ott_s (x y : Nat → Int32) (n k : Nat) : ott x y n (k + 1) = inn x y k (ott x y n k) n := rfl
theorem CAL.fr {S : Nat → Nat → Prop} {μ μ1 : Mem} {C : Nat → Nat} {c : Nat} (a : Fr S μ μ1) (h1 : ∀ h j, 41 ≤ h → h ≤ 43 → ¬ S h j) (h2 : ∀ h j, 59 ≤ h → shp μ h = (4, 0) → ¬ S h j) (i3 : CAL C c μ) : CAL C c μ1 := by
  unfold CAL at i3 ⊢
  have e0 : gi μ1 (C c) = gi μ (C c) := funext fun j => a.2 _ _ (h2 _ _ i3.1 i3.2.1)
  have e3 : ∀ h, 41 ≤ h → h ≤ 43 → gi μ1 h = gi μ h := fun h g1 g2 => funext fun j => a.2 _ _ (h1 h j g1 g2)
  rw [a.1.2.1, e0, e3 41 (by decide) (by decide), e3 42 (by decide) (by decide), e3 43 (by decide) (by decide)]
  exact i3
def CX (B C : Nat → Nat) (nb c d : Nat) (μ : Mem) : Prop := ST μ ∧ I_misc μ ∧ I_miles μ ∧ I_tide μ ∧ I_needs μ ∧ LST 8 B nb μ ∧ gi μ 27 2 = nI nb ∧ (∀ b, b < nb → BOA B b μ) ∧ CAL C c μ ∧ CAL C d μ
theorem CX.fr {B C : Nat → Nat} {nb c d : Nat} {μ ν : Mem} (a : Fr S15 μ ν) (x : CX B C nb c d μ) : CX B C nb c d ν := by
  obtain ⟨x1, x2, x3, x4, x5, x6, x7, x8, x9, x10⟩ := x
  have no : ∀ h k : Nat, h ≠ 15 → ¬ S15 h k := fun h k g q => g q
  have n2 : ∀ h k : Nat, 59 ≤ h → ¬ S15 h k := fun h k g q => by have : h = 15 := q; omega
  have n3 : ∀ h k lo : Nat, 16 ≤ lo → lo ≤ h → ¬ S15 h k := fun h k lo g g2 q => by have : h = 15 := q; omega
  refine ⟨x1.fr a, x2.fr a (no _ _ (by decide)) (no _ _ (by decide)) (no _ _ (by decide)) (no _ _ (by decide)) (no _ _ (by decide)) (no _ _ (by decide)), x3.fr a (fun j => no _ _ (by decide)) (fun j => no _ _ (by decide)), x4.fr a (fun j => no _ _ (by decide)) (fun j => no _ _ (by decide)) (no _ _ (by decide)), x5.fr a (fun j => no _ _ (by decide)) (fun j => no _ _ (by decide)), x6.fr a (no _ _ (by decide)), ?_, fun b hb => (x8 b hb).fr a (fun h j g _ => n3 _ _ 37 (by decide) g) (fun h j g _ => n2 _ _ g), x9.fr a (fun h j g _ => n3 _ _ 41 (by decide) g) (fun h j g _ => n2 _ _ g), x10.fr a (fun h j g _ => n3 _ _ 41 (by decide) g) (fun h j g _ => n2 _ _ g)⟩
  rw [a.2 _ _ (no _ _ (by decide))]
  exact x7
theorem rea_fr {μ ν : Mem} (a : Fr S15 μ ν) (b c : Nat) : rea ν b c = rea μ b c := by
  have e : ∀ h, h ≠ 15 → gi ν h = gi μ h := fun h g => funext fun j => a.2 _ _ (fun q => g q)
  unfold rea lau can rdy wayv spd
  rw [e 27 (by decide), e 28 (by decide), e 29 (by decide), e 36 (by decide), e 37 (by decide), e 38 (by decide), e 39 (by decide), e 40 (by decide), e 41 (by decide), e 42 (by decide), e 43 (by decide)]
section TW
variable {μ : Mem} {B C : Nat → Nat} {c d nb : Nat}
theorem H_two_in (cx : CX B C nb c d μ) (hn : nb ≤ 8) (K : Int32 → Mem → Option (LV × Mem)) (i : Nat) (hi : i < nb) (s : S4) (hx : ¬ rea μ i c = -9) : ∀ f k ν, k ≤ nb → nb - k < f → Fr S15 μ ν → PS ν (inn (fun b => rea μ b c) (fun b => rea μ b d) i s k) →
    ∃ ν', k_H_pairBoats_51 K 4 (C c) (C d) (nI i) (rea μ i c) f (nI k) ν = K (nI i) ν' ∧ Fr S15 μ ν' ∧ PS ν' (inn (fun b => rea μ b c) (fun b => rea μ b d) i s nb)
  | 0, k, ν, _, h, _, _ => by omega
  | f + 1, k, ν, hk, h, fr, ps => by
    have cv := cx.fr fr
    have st := cv.1
    have l8 := cv.2.2.2.2.2.1
    simp only [k_H_pairBoats_51]
    rw [e_gR4_3 st, e_cV8 st, AL_size (st_h8 st), e_bI, l8.1]
    by_cases e : k = nb
    · subst e
      rw [if_pos (nI_le (Nat.le_refl _) (by omega))]
      exact ⟨ν, rfl, fr, ps⟩
    · have bb := cv.2.2.2.2.2.2.2.1 k (by omega)
      have nx := fun ν2 => H_two_in cx hn K i hi s hx f (k + 1) ν2 (by omega) (by omega)
      rw [inn_s, ← nI_1 k] at nx
      rw [if_neg (nI_ge (by omega) (by omega))]
      by_cases q : i = k
      · rw [if_pos q] at nx
        rw [if_pos (by rw [q])]
        exact nx ν fr ps
      · rw [if_neg q, if_neg hx] at nx
        rw [if_neg (fun z => q (nI_inj (by omega) (by omega) z).symm), e_gR4_3 st, e_cV8 st, AL_get (st_h8 st) l8 (by omega) (by omega : k < nb), e_bR]
        unfold cC
        rw [if_pos (Or.inr bb.2.1), e_cV4 st, H_reach st cv.2.1 cv.2.2.1 cv.2.2.2.1 cv.2.2.2.2.1 bb cv.2.2.2.2.2.2.2.2.2, e_bI, rea_fr fr]
        by_cases r : rea μ k d = -9
        · rw [if_pos r] at nx ⊢
          exact nx ν fr ps
        · rw [if_neg r] at nx ⊢
          obtain ⟨ν2, o1, o2, o3⟩ := P_off st ps (nI i) (nI k) (rea μ i c) (rea μ k d)
          rw [e_gR4_8 st, e_cV15 st, o1, e_bV]
          exact nx ν2 (fr.tr o2) o3
theorem H_two_out (cx : CX B C nb c d μ) (hn : nb ≤ 8) : ∀ f k ν, k ≤ nb → nb - k < f → Fr S15 μ ν → PS ν (ott (fun b => rea μ b c) (fun b => rea μ b d) nb k) →
    ∃ ν', k_H_pairBoats_9 4 (C c) (C d) f (nI k) ν = some (.inl 0, ν') ∧ Fr S15 μ ν' ∧ PS ν' (ott (fun b => rea μ b c) (fun b => rea μ b d) nb nb)
  | 0, k, ν, _, h, _, _ => by omega
  | f + 1, k, ν, hk, h, fr, ps => by
    have cv := cx.fr fr
    have st := cv.1
    have l8 := cv.2.2.2.2.2.1
    simp only [k_H_pairBoats_9]
    rw [e_gR4_3 st, e_cV8 st, AL_size (st_h8 st), e_bI, l8.1]
    by_cases e : k = nb
    · subst e
      rw [if_pos (nI_le (Nat.le_refl _) (by omega))]
      exact ⟨ν, rfl, fr, ps⟩
    · have bb := cv.2.2.2.2.2.2.2.1 k (by omega)
      have nx := fun ν2 => H_two_out cx hn f (k + 1) ν2 (by omega) (by omega)
      rw [ott_s, ← nI_1 k] at nx
      rw [if_neg (nI_ge (by omega) (by omega)), e_gR4_3 st, e_cV8 st, AL_get (st_h8 st) l8 (by omega) (by omega : k < nb), e_bR]
      unfold cC
      rw [if_pos (Or.inr bb.2.1), e_cV4 st, H_reach st cv.2.1 cv.2.2.1 cv.2.2.2.1 cv.2.2.2.2.1 bb cv.2.2.2.2.2.2.2.2.1, e_bI, rea_fr fr]
      by_cases r : rea μ k c = -9
      · rw [if_pos r]
        refine nx ν fr ?_
        rw [inn_no (fun b => rea μ b c) (fun b => rea μ b d) k _ r]
        exact ps
      · rw [if_neg r]
        obtain ⟨ν2, o1, o2, o3⟩ := H_two_in cx hn (fun b3 m_ => b_H_pairBoats_118 (k_H_pairBoats_9 4 (C c) (C d) f) 4 (C c) (C d) b3 m_) k (by omega) _ r 120000 0 ν (by omega) (by omega) fr ps
        rw [show k_H_pairBoats_51 (fun b3 m_ => b_H_pairBoats_118 (k_H_pairBoats_9 4 (C c) (C d) f) 4 (C c) (C d) b3 m_) 4 (C c) (C d) (nI k) (rea μ k c) 120000 0 ν = _ from o1]
        exact nx ν2 o2 o3
theorem M_two_in (cx : CX B C nb c d μ) (hn : nb ≤ 8) (hc : c < 20) (hd : d < 20) (K : Int32 → Int32 → Int32 → Int32 → Int32 → Mem → Option (LV × Mem)) (w : Int32) (i : Nat) (hi : i < nb) (s : S4) (x y : Nat → Int32) (ex : ∀ b, rea μ b c = x b) (ey : ∀ b, rea μ b d = y b) : ∀ f k (t : S4), k ≤ nb → nb - k < f → t = inn x y i s k →
    k_M_two_73 K 27 (nI c) (nI d) w (nI i) f t.1 t.2.1 t.2.2.1 t.2.2.2 (nI k) μ = K (inn x y i s nb).1 (inn x y i s nb).2.1 (inn x y i s nb).2.2.1 (inn x y i s nb).2.2.2 (nI i) μ
  | 0, k, t, _, h, _ => by omega
  | f + 1, k, t, hk, h, et => by
    have st := cx.1
    simp only [k_M_two_73]
    rw [e_gI27 st, cx.2.2.2.2.2.2.1]
    by_cases e : k = nb
    · subst e
      rw [if_pos (nI_le (Nat.le_refl _) (by omega)), et]
    · have bb := cx.2.2.2.2.2.2.2.1 k (by omega)
      have bi := cx.2.2.2.2.2.2.2.1 i hi
      have nx := fun t2 => M_two_in cx hn hc hd K w i hi s x y ex ey f (k + 1) t2 (by omega) (by omega)
      rw [inn_s, ← nI_1 k, ← et] at nx
      rw [if_neg (nI_ge (by omega) (by omega))]
      have skip : t = (if i = k then t else if x i = -9 then t else if y k = -9 then t else offr t (nI i) (nI k) (x i) (y k)) → b_M_two_210 (k_M_two_73 K 27 (nI c) (nI d) w (nI i) f) 27 (nI c) (nI d) w t.1 t.2.1 t.2.2.1 t.2.2.2 (nI i) (nI k) μ = K (inn x y i s nb).1 (inn x y i s nb).2.1 (inn x y i s nb).2.2.1 (inn x y i s nb).2.2.2 (nI i) μ := fun q => nx t q
      by_cases q : i = k
      · rw [if_pos (by rw [q])]
        unfold b_M_two_101 b_M_two_122
        rw [if_pos (by rw [q]), if_pos rfl]
        exact skip (by rw [if_pos q])
      · have q2 : ¬ nI i = nI k := fun z => q (nI_inj (by omega) (by omega) z)
        rw [if_neg q2, e_cV27 st, M_reach st cx.2.1 bi cx.2.2.2.2.2.2.2.2.1 (by omega) hc, e_bI]
        unfold b_M_two_101
        rw [if_neg q2, e_cV27 st, M_reach st cx.2.1 bb cx.2.2.2.2.2.2.2.2.2 (by omega) hd, e_bI, ex, ey]
        unfold b_M_two_122
        by_cases r : x i = -9
        · rw [if_pos r]
          exact skip (by rw [if_neg q, if_pos r])
        · rw [if_neg r]
          by_cases z : y k = -9
          · rw [if_pos z]
            exact skip (by rw [if_neg q, if_neg r, if_pos z])
          · rw [if_neg z]
            rw [if_neg q, if_neg r, if_neg z] at skip
            have take : offr t (nI i) (nI k) (x i) (y k) = (mx (x i) (y k), x i + y k, nI i, nI k) → b_M_two_191 (k_M_two_73 K 27 (nI c) (nI d) w (nI i) f) 27 (nI c) (nI d) w (nI i) (nI k) (x i) (y k) (mx (x i) (y k)) μ = K (inn x y i s nb).1 (inn x y i s nb).2.1 (inn x y i s nb).2.2.1 (inn x y i s nb).2.2.2 (nI i) μ := fun g => nx (mx (x i) (y k), x i + y k, nI i, nI k) (by rw [if_neg q, if_neg r, if_neg z, g])
            have main : b_M_two_155 (k_M_two_73 K 27 (nI c) (nI d) w (nI i) f) 27 (nI c) (nI d) w t.1 t.2.1 t.2.2.1 t.2.2.2 (nI i) (nI k) (x i) (y k) (mx (x i) (y k)) μ = K (inn x y i s nb).1 (inn x y i s nb).2.1 (inn x y i s nb).2.2.1 (inn x y i s nb).2.2.2 (nI i) μ := by
              unfold b_M_two_155
              unfold offr at skip take
              by_cases u1 : t.1 = -9
              · rw [if_pos u1] at take ⊢
                exact take rfl
              · rw [if_neg u1] at take skip ⊢
                by_cases u2 : t.1 < mx (x i) (y k)
                · rw [if_pos u2] at skip ⊢
                  exact skip rfl
                · rw [if_neg u2] at skip take ⊢
                  by_cases u3 : mx (x i) (y k) = t.1
                  · rw [if_pos u3] at skip take ⊢
                    by_cases u4 : x i + y k < t.2.1
                    · rw [if_pos u4] at take ⊢
                      exact take rfl
                    · rw [if_neg u4] at skip ⊢
                      exact skip rfl
                  · rw [if_neg u3] at take ⊢
                    exact take rfl
            by_cases v : x i ≤ y k
            · rw [if_pos v]
              have g : mx (x i) (y k) = y k := if_pos v
              rw [g] at main
              exact main
            · rw [if_neg v]
              have g : mx (x i) (y k) = x i := if_neg v
              rw [g] at main
              exact main
theorem M_two_out (cx : CX B C nb c d μ) (hn : nb ≤ 8) (hc : c < 20) (hd : d < 20) (K : Int32 → Int32 → Int32 → Int32 → Mem → Option (LV × Mem)) (w : Int32) (x y : Nat → Int32) (ex : ∀ b, rea μ b c = x b) (ey : ∀ b, rea μ b d = y b) : ∀ f k (t : S4), k ≤ nb → nb - k < f → t = ott x y nb k →
    k_M_two_61 K 27 (nI c) (nI d) w f t.1 t.2.1 t.2.2.1 t.2.2.2 (nI k) μ = K w (ott x y nb nb).1 (ott x y nb nb).2.2.1 (ott x y nb nb).2.2.2 μ
  | 0, k, t, _, h, _ => by omega
  | f + 1, k, t, hk, h, et => by
    have st := cx.1
    simp only [k_M_two_61]
    rw [e_gI27 st, cx.2.2.2.2.2.2.1]
    by_cases e : k = nb
    · subst e
      rw [if_pos (nI_le (Nat.le_refl _) (by omega)), et]
    · have nx := M_two_out cx hn hc hd K w x y ex ey f (k + 1) _ (by omega) (by omega) rfl
      rw [ott_s, ← nI_1 k, ← et] at nx
      rw [if_neg (nI_ge (by omega) (by omega))]
      exact (M_two_in cx hn hc hd (fun b4 b5 b6 b7 b8 m_ => b_M_two_216 (k_M_two_61 K 27 (nI c) (nI d) w f) 27 (nI c) (nI d) w b4 b5 b6 b7 b8 m_) w k (by omega) t x y ex ey 120000 0 t (by omega) (by omega) rfl).trans nx
end TW
theorem op_two {μ : Mem} (i : Inv μ) (x y w : Int32) : Opx (f_H_two 4 x y w) (f_M_two 27 x y w) μ := by
  have st := i.1
  have stA : ∀ h k x, ST (si μ h k x) := fun _ _ _ => st
  have stB : ∀ h k x h' k' x', ST (si (si μ h k x) h' k' x') := fun _ _ _ _ _ _ => st
  obtain ⟨B, nb, hnb, g1, g2, g3, g4, g5, g6⟩ := i.2.2.2.2.2.2.2.2.1
  obtain ⟨C, nc, hnc, c1, c2, c3, c4⟩ := i.2.2.2.2.2.2.2.2.2.1
  rcases ix (x := x) (n := nc) (by omega) with hx | ⟨c, hc, rfl⟩
  · have m1 : f_M_isCall 27 x (si μ 26 1 (gi μ 26 1 + 1)) = some (.inl 0, si μ 26 1 (gi μ 26 1 + 1)) := MisCall_f (stA _ _ _) c1 hx
    obtain ⟨r, hr⟩ := call_any st hnc c2 c3 y
    exact Opx.ref (c := -1) i 1 (by decide) (by simp only [f_H_two, rf_1, b_H_two_29, HcallAt_f st c2 hx, hr, e_nm, e_bI, e_bR, e_bV, e_gI4, e_pI4, e_cV4, e_gR4_0, e_gR4_1, e_gR4_2, e_gR4_3, e_gR4_4, e_gR4_5, e_gR4_6, e_gR4_7, e_gR4_8, e_gR4_9, e_gR4_10, e_gR4_11, e_aI5, e_aS5, e_aI6, e_aS6, e_gI7, e_pI7, e_cV7, e_gR7, e_gI8, e_pI8, e_cV8, e_gR8, e_gI9, e_pI9, e_cV9, e_gR9, e_gI10, e_pI10, e_cV10, e_gR10, e_gI11, e_pI11, e_cV11, e_gR11_0, e_aI12, e_aS12, e_gI13, e_pI13, e_cV13, e_gR13_0, e_aI14, e_aS14, e_gI15, e_pI15, e_cV15, e_gI16, e_pI16, e_cV16, e_gR16_0, e_gR16_3, e_gR16_4, e_gR16_5, e_gR16_6, e_aI17, e_aS17, e_aI18, e_aS18, e_aI19, e_aS19, e_zI20, e_zS20, e_aI21, e_aS21, e_gI22, e_pI22, e_cV22, e_gR22_0, e_gR22_1, e_gR22_3, e_aI23, e_aS23, e_aI24, e_aS24, e_aI25, e_aS25, e_aI26, e_aS26, e_gI27, e_pI27, e_cV27, e_gR27_7, e_gR27_8, e_gR27_9, e_gR27_10, e_gR27_11, e_gR27_12, e_gR27_13, e_gR27_14, e_gR27_15, e_gR27_16, e_gR27_17, e_gR27_18, e_gR27_19, e_gR27_20, e_gR27_21, e_gR27_22, e_gR27_23, e_gR27_24, e_gR27_25, e_gR27_26, e_gR27_27, e_gR27_28, e_gR27_29, e_gR27_30, e_gR27_31, e_gR27_32, e_gR27_33, e_gR27_34, e_gR27_35, e_gR27_36, e_gR27_37, e_aI28, e_aS28, e_aI29, e_aS29, e_aI30, e_aS30, e_aI31, e_aS31, e_aI32, e_aS32, e_aI33, e_aS33, e_aI34, e_aS34, e_aI35, e_aS35, e_aI36, e_aS36, e_aI37, e_aS37, e_aI38, e_aS38, e_aI39, e_aS39, e_aI40, e_aS40, e_aI41, e_aS41, e_aI42, e_aS42, e_aI43, e_aS43, e_aI44, e_aS44, e_aI45, e_aS45, e_aI46, e_aS46, e_aI47, e_aS47, e_aI48, e_aS48, e_aI49, e_aS49, e_aI50, e_aS50, e_aI51, e_aS51, e_aI52, e_aS52, e_aI53, e_aS53, e_aI54, e_aS54, e_aI55, e_aS55, e_aI56, e_aS56, e_aI57, e_aS57, e_aI58, e_aS58, st, stA, stB, inb, and_self, if_true, if_false, i32_00, i32_10, i32_m40, i32_m60]) (by simp only [f_M_two, no_1, b_M_two_21, m1, e_nm, e_bI, e_bR, e_bV, e_gI4, e_pI4, e_cV4, e_gR4_0, e_gR4_1, e_gR4_2, e_gR4_3, e_gR4_4, e_gR4_5, e_gR4_6, e_gR4_7, e_gR4_8, e_gR4_9, e_gR4_10, e_gR4_11, e_aI5, e_aS5, e_aI6, e_aS6, e_gI7, e_pI7, e_cV7, e_gR7, e_gI8, e_pI8, e_cV8, e_gR8, e_gI9, e_pI9, e_cV9, e_gR9, e_gI10, e_pI10, e_cV10, e_gR10, e_gI11, e_pI11, e_cV11, e_gR11_0, e_aI12, e_aS12, e_gI13, e_pI13, e_cV13, e_gR13_0, e_aI14, e_aS14, e_gI15, e_pI15, e_cV15, e_gI16, e_pI16, e_cV16, e_gR16_0, e_gR16_3, e_gR16_4, e_gR16_5, e_gR16_6, e_aI17, e_aS17, e_aI18, e_aS18, e_aI19, e_aS19, e_zI20, e_zS20, e_aI21, e_aS21, e_gI22, e_pI22, e_cV22, e_gR22_0, e_gR22_1, e_gR22_3, e_aI23, e_aS23, e_aI24, e_aS24, e_aI25, e_aS25, e_aI26, e_aS26, e_gI27, e_pI27, e_cV27, e_gR27_7, e_gR27_8, e_gR27_9, e_gR27_10, e_gR27_11, e_gR27_12, e_gR27_13, e_gR27_14, e_gR27_15, e_gR27_16, e_gR27_17, e_gR27_18, e_gR27_19, e_gR27_20, e_gR27_21, e_gR27_22, e_gR27_23, e_gR27_24, e_gR27_25, e_gR27_26, e_gR27_27, e_gR27_28, e_gR27_29, e_gR27_30, e_gR27_31, e_gR27_32, e_gR27_33, e_gR27_34, e_gR27_35, e_gR27_36, e_gR27_37, e_aI28, e_aS28, e_aI29, e_aS29, e_aI30, e_aS30, e_aI31, e_aS31, e_aI32, e_aS32, e_aI33, e_aS33, e_aI34, e_aS34, e_aI35, e_aS35, e_aI36, e_aS36, e_aI37, e_aS37, e_aI38, e_aS38, e_aI39, e_aS39, e_aI40, e_aS40, e_aI41, e_aS41, e_aI42, e_aS42, e_aI43, e_aS43, e_aI44, e_aS44, e_aI45, e_aS45, e_aI46, e_aS46, e_aI47, e_aS47, e_aI48, e_aS48, e_aI49, e_aS49, e_aI50, e_aS50, e_aI51, e_aS51, e_aI52, e_aS52, e_aI53, e_aS53, e_aI54, e_aS54, e_aI55, e_aS55, e_aI56, e_aS56, e_aI57, e_aS57, e_aI58, e_aS58, st, stA, stB, inb, and_self, if_true, if_false, i32_00, i32_10, i32_m40, i32_m60])
  have cc := c3 c hc
  have c59 := cc.1
  have hC : ¬ C c = 0 := by omega
  have hK := HcallAt_t st c2 (by omega) hc cc.2.1
  have mc : ∀ k, f_M_isCall 27 (nI c) (si μ 26 k (gi μ 26 k + 1)) = some (.inl 1, si μ 26 k (gi μ 26 k + 1)) := fun k => MisCall_t (stA _ _ _) c1 (by omega) hc
  rcases ix (x := y) (n := nc) (by omega) with hy | ⟨d, hd, rfl⟩
  · have m1 : f_M_isCall 27 y (si μ 26 1 (gi μ 26 1 + 1)) = some (.inl 0, si μ 26 1 (gi μ 26 1 + 1)) := MisCall_f (stA _ _ _) c1 hy
    exact Opx.ref (c := -1) i 1 (by decide) (by simp only [f_H_two, rf_1, b_H_two_29, hK, hC, HcallAt_f st c2 hy, e_nm, e_bI, e_bR, e_bV, e_gI4, e_pI4, e_cV4, e_gR4_0, e_gR4_1, e_gR4_2, e_gR4_3, e_gR4_4, e_gR4_5, e_gR4_6, e_gR4_7, e_gR4_8, e_gR4_9, e_gR4_10, e_gR4_11, e_aI5, e_aS5, e_aI6, e_aS6, e_gI7, e_pI7, e_cV7, e_gR7, e_gI8, e_pI8, e_cV8, e_gR8, e_gI9, e_pI9, e_cV9, e_gR9, e_gI10, e_pI10, e_cV10, e_gR10, e_gI11, e_pI11, e_cV11, e_gR11_0, e_aI12, e_aS12, e_gI13, e_pI13, e_cV13, e_gR13_0, e_aI14, e_aS14, e_gI15, e_pI15, e_cV15, e_gI16, e_pI16, e_cV16, e_gR16_0, e_gR16_3, e_gR16_4, e_gR16_5, e_gR16_6, e_aI17, e_aS17, e_aI18, e_aS18, e_aI19, e_aS19, e_zI20, e_zS20, e_aI21, e_aS21, e_gI22, e_pI22, e_cV22, e_gR22_0, e_gR22_1, e_gR22_3, e_aI23, e_aS23, e_aI24, e_aS24, e_aI25, e_aS25, e_aI26, e_aS26, e_gI27, e_pI27, e_cV27, e_gR27_7, e_gR27_8, e_gR27_9, e_gR27_10, e_gR27_11, e_gR27_12, e_gR27_13, e_gR27_14, e_gR27_15, e_gR27_16, e_gR27_17, e_gR27_18, e_gR27_19, e_gR27_20, e_gR27_21, e_gR27_22, e_gR27_23, e_gR27_24, e_gR27_25, e_gR27_26, e_gR27_27, e_gR27_28, e_gR27_29, e_gR27_30, e_gR27_31, e_gR27_32, e_gR27_33, e_gR27_34, e_gR27_35, e_gR27_36, e_gR27_37, e_aI28, e_aS28, e_aI29, e_aS29, e_aI30, e_aS30, e_aI31, e_aS31, e_aI32, e_aS32, e_aI33, e_aS33, e_aI34, e_aS34, e_aI35, e_aS35, e_aI36, e_aS36, e_aI37, e_aS37, e_aI38, e_aS38, e_aI39, e_aS39, e_aI40, e_aS40, e_aI41, e_aS41, e_aI42, e_aS42, e_aI43, e_aS43, e_aI44, e_aS44, e_aI45, e_aS45, e_aI46, e_aS46, e_aI47, e_aS47, e_aI48, e_aS48, e_aI49, e_aS49, e_aI50, e_aS50, e_aI51, e_aS51, e_aI52, e_aS52, e_aI53, e_aS53, e_aI54, e_aS54, e_aI55, e_aS55, e_aI56, e_aS56, e_aI57, e_aS57, e_aI58, e_aS58, st, stA, stB, inb, and_self, if_true, if_false, i32_00, i32_10, i32_m40, i32_m60]) (by simp only [f_M_two, no_1, b_M_two_21, mc 1, m1, e_nm, e_bI, e_bR, e_bV, e_gI4, e_pI4, e_cV4, e_gR4_0, e_gR4_1, e_gR4_2, e_gR4_3, e_gR4_4, e_gR4_5, e_gR4_6, e_gR4_7, e_gR4_8, e_gR4_9, e_gR4_10, e_gR4_11, e_aI5, e_aS5, e_aI6, e_aS6, e_gI7, e_pI7, e_cV7, e_gR7, e_gI8, e_pI8, e_cV8, e_gR8, e_gI9, e_pI9, e_cV9, e_gR9, e_gI10, e_pI10, e_cV10, e_gR10, e_gI11, e_pI11, e_cV11, e_gR11_0, e_aI12, e_aS12, e_gI13, e_pI13, e_cV13, e_gR13_0, e_aI14, e_aS14, e_gI15, e_pI15, e_cV15, e_gI16, e_pI16, e_cV16, e_gR16_0, e_gR16_3, e_gR16_4, e_gR16_5, e_gR16_6, e_aI17, e_aS17, e_aI18, e_aS18, e_aI19, e_aS19, e_zI20, e_zS20, e_aI21, e_aS21, e_gI22, e_pI22, e_cV22, e_gR22_0, e_gR22_1, e_gR22_3, e_aI23, e_aS23, e_aI24, e_aS24, e_aI25, e_aS25, e_aI26, e_aS26, e_gI27, e_pI27, e_cV27, e_gR27_7, e_gR27_8, e_gR27_9, e_gR27_10, e_gR27_11, e_gR27_12, e_gR27_13, e_gR27_14, e_gR27_15, e_gR27_16, e_gR27_17, e_gR27_18, e_gR27_19, e_gR27_20, e_gR27_21, e_gR27_22, e_gR27_23, e_gR27_24, e_gR27_25, e_gR27_26, e_gR27_27, e_gR27_28, e_gR27_29, e_gR27_30, e_gR27_31, e_gR27_32, e_gR27_33, e_gR27_34, e_gR27_35, e_gR27_36, e_gR27_37, e_aI28, e_aS28, e_aI29, e_aS29, e_aI30, e_aS30, e_aI31, e_aS31, e_aI32, e_aS32, e_aI33, e_aS33, e_aI34, e_aS34, e_aI35, e_aS35, e_aI36, e_aS36, e_aI37, e_aS37, e_aI38, e_aS38, e_aI39, e_aS39, e_aI40, e_aS40, e_aI41, e_aS41, e_aI42, e_aS42, e_aI43, e_aS43, e_aI44, e_aS44, e_aI45, e_aS45, e_aI46, e_aS46, e_aI47, e_aS47, e_aI48, e_aS48, e_aI49, e_aS49, e_aI50, e_aS50, e_aI51, e_aS51, e_aI52, e_aS52, e_aI53, e_aS53, e_aI54, e_aS54, e_aI55, e_aS55, e_aI56, e_aS56, e_aI57, e_aS57, e_aI58, e_aS58, st, stA, stB, inb, and_self, if_true, if_false, i32_00, i32_10, i32_m40, i32_m60])
  have cd := c3 d hd
  have d59 := cd.1
  have hD : ¬ C d = 0 := by omega
  have hKd := HcallAt_t st c2 (by omega) hd cd.2.1
  have md : ∀ k, f_M_isCall 27 (nI d) (si μ 26 k (gi μ 26 k + 1)) = some (.inl 1, si μ 26 k (gi μ 26 k + 1)) := fun k => MisCall_t (stA _ _ _) c1 (by omega) hd
  by_cases ecd : nI c = nI d
  · exact Opx.ref (c := -1) i 1 (by decide) (by simp only [f_H_two, rf_1, b_H_two_29, hK, hC, hKd, hD, ecd, e_nm, e_bI, e_bR, e_bV, e_gI4, e_pI4, e_cV4, e_gR4_0, e_gR4_1, e_gR4_2, e_gR4_3, e_gR4_4, e_gR4_5, e_gR4_6, e_gR4_7, e_gR4_8, e_gR4_9, e_gR4_10, e_gR4_11, e_aI5, e_aS5, e_aI6, e_aS6, e_gI7, e_pI7, e_cV7, e_gR7, e_gI8, e_pI8, e_cV8, e_gR8, e_gI9, e_pI9, e_cV9, e_gR9, e_gI10, e_pI10, e_cV10, e_gR10, e_gI11, e_pI11, e_cV11, e_gR11_0, e_aI12, e_aS12, e_gI13, e_pI13, e_cV13, e_gR13_0, e_aI14, e_aS14, e_gI15, e_pI15, e_cV15, e_gI16, e_pI16, e_cV16, e_gR16_0, e_gR16_3, e_gR16_4, e_gR16_5, e_gR16_6, e_aI17, e_aS17, e_aI18, e_aS18, e_aI19, e_aS19, e_zI20, e_zS20, e_aI21, e_aS21, e_gI22, e_pI22, e_cV22, e_gR22_0, e_gR22_1, e_gR22_3, e_aI23, e_aS23, e_aI24, e_aS24, e_aI25, e_aS25, e_aI26, e_aS26, e_gI27, e_pI27, e_cV27, e_gR27_7, e_gR27_8, e_gR27_9, e_gR27_10, e_gR27_11, e_gR27_12, e_gR27_13, e_gR27_14, e_gR27_15, e_gR27_16, e_gR27_17, e_gR27_18, e_gR27_19, e_gR27_20, e_gR27_21, e_gR27_22, e_gR27_23, e_gR27_24, e_gR27_25, e_gR27_26, e_gR27_27, e_gR27_28, e_gR27_29, e_gR27_30, e_gR27_31, e_gR27_32, e_gR27_33, e_gR27_34, e_gR27_35, e_gR27_36, e_gR27_37, e_aI28, e_aS28, e_aI29, e_aS29, e_aI30, e_aS30, e_aI31, e_aS31, e_aI32, e_aS32, e_aI33, e_aS33, e_aI34, e_aS34, e_aI35, e_aS35, e_aI36, e_aS36, e_aI37, e_aS37, e_aI38, e_aS38, e_aI39, e_aS39, e_aI40, e_aS40, e_aI41, e_aS41, e_aI42, e_aS42, e_aI43, e_aS43, e_aI44, e_aS44, e_aI45, e_aS45, e_aI46, e_aS46, e_aI47, e_aS47, e_aI48, e_aS48, e_aI49, e_aS49, e_aI50, e_aS50, e_aI51, e_aS51, e_aI52, e_aS52, e_aI53, e_aS53, e_aI54, e_aS54, e_aI55, e_aS55, e_aI56, e_aS56, e_aI57, e_aS57, e_aI58, e_aS58, st, stA, stB, inb, and_self, if_true, if_false, i32_00, i32_10, i32_m40, i32_m60]) (by simp only [f_M_two, no_1, b_M_two_21, mc 1, md 1, ecd, e_nm, e_bI, e_bR, e_bV, e_gI4, e_pI4, e_cV4, e_gR4_0, e_gR4_1, e_gR4_2, e_gR4_3, e_gR4_4, e_gR4_5, e_gR4_6, e_gR4_7, e_gR4_8, e_gR4_9, e_gR4_10, e_gR4_11, e_aI5, e_aS5, e_aI6, e_aS6, e_gI7, e_pI7, e_cV7, e_gR7, e_gI8, e_pI8, e_cV8, e_gR8, e_gI9, e_pI9, e_cV9, e_gR9, e_gI10, e_pI10, e_cV10, e_gR10, e_gI11, e_pI11, e_cV11, e_gR11_0, e_aI12, e_aS12, e_gI13, e_pI13, e_cV13, e_gR13_0, e_aI14, e_aS14, e_gI15, e_pI15, e_cV15, e_gI16, e_pI16, e_cV16, e_gR16_0, e_gR16_3, e_gR16_4, e_gR16_5, e_gR16_6, e_aI17, e_aS17, e_aI18, e_aS18, e_aI19, e_aS19, e_zI20, e_zS20, e_aI21, e_aS21, e_gI22, e_pI22, e_cV22, e_gR22_0, e_gR22_1, e_gR22_3, e_aI23, e_aS23, e_aI24, e_aS24, e_aI25, e_aS25, e_aI26, e_aS26, e_gI27, e_pI27, e_cV27, e_gR27_7, e_gR27_8, e_gR27_9, e_gR27_10, e_gR27_11, e_gR27_12, e_gR27_13, e_gR27_14, e_gR27_15, e_gR27_16, e_gR27_17, e_gR27_18, e_gR27_19, e_gR27_20, e_gR27_21, e_gR27_22, e_gR27_23, e_gR27_24, e_gR27_25, e_gR27_26, e_gR27_27, e_gR27_28, e_gR27_29, e_gR27_30, e_gR27_31, e_gR27_32, e_gR27_33, e_gR27_34, e_gR27_35, e_gR27_36, e_gR27_37, e_aI28, e_aS28, e_aI29, e_aS29, e_aI30, e_aS30, e_aI31, e_aS31, e_aI32, e_aS32, e_aI33, e_aS33, e_aI34, e_aS34, e_aI35, e_aS35, e_aI36, e_aS36, e_aI37, e_aS37, e_aI38, e_aS38, e_aI39, e_aS39, e_aI40, e_aS40, e_aI41, e_aS41, e_aI42, e_aS42, e_aI43, e_aS43, e_aI44, e_aS44, e_aI45, e_aS45, e_aI46, e_aS46, e_aI47, e_aS47, e_aI48, e_aS48, e_aI49, e_aS49, e_aI50, e_aS50, e_aI51, e_aS51, e_aI52, e_aS52, e_aI53, e_aS53, e_aI54, e_aS54, e_aI55, e_aS55, e_aI56, e_aS56, e_aI57, e_aS57, e_aI58, e_aS58, st, stA, stB, inb, and_self, if_true, if_false, i32_00, i32_10, i32_m40, i32_m60])
  by_cases w0 : w < 0
  · exact Opx.ref (c := -2) i 2 (by decide) (by simp only [f_H_two, rf_2, b_H_two_44, hK, hC, hKd, hD, ecd, w0, e_nm, e_bI, e_bR, e_bV, e_gI4, e_pI4, e_cV4, e_gR4_0, e_gR4_1, e_gR4_2, e_gR4_3, e_gR4_4, e_gR4_5, e_gR4_6, e_gR4_7, e_gR4_8, e_gR4_9, e_gR4_10, e_gR4_11, e_aI5, e_aS5, e_aI6, e_aS6, e_gI7, e_pI7, e_cV7, e_gR7, e_gI8, e_pI8, e_cV8, e_gR8, e_gI9, e_pI9, e_cV9, e_gR9, e_gI10, e_pI10, e_cV10, e_gR10, e_gI11, e_pI11, e_cV11, e_gR11_0, e_aI12, e_aS12, e_gI13, e_pI13, e_cV13, e_gR13_0, e_aI14, e_aS14, e_gI15, e_pI15, e_cV15, e_gI16, e_pI16, e_cV16, e_gR16_0, e_gR16_3, e_gR16_4, e_gR16_5, e_gR16_6, e_aI17, e_aS17, e_aI18, e_aS18, e_aI19, e_aS19, e_zI20, e_zS20, e_aI21, e_aS21, e_gI22, e_pI22, e_cV22, e_gR22_0, e_gR22_1, e_gR22_3, e_aI23, e_aS23, e_aI24, e_aS24, e_aI25, e_aS25, e_aI26, e_aS26, e_gI27, e_pI27, e_cV27, e_gR27_7, e_gR27_8, e_gR27_9, e_gR27_10, e_gR27_11, e_gR27_12, e_gR27_13, e_gR27_14, e_gR27_15, e_gR27_16, e_gR27_17, e_gR27_18, e_gR27_19, e_gR27_20, e_gR27_21, e_gR27_22, e_gR27_23, e_gR27_24, e_gR27_25, e_gR27_26, e_gR27_27, e_gR27_28, e_gR27_29, e_gR27_30, e_gR27_31, e_gR27_32, e_gR27_33, e_gR27_34, e_gR27_35, e_gR27_36, e_gR27_37, e_aI28, e_aS28, e_aI29, e_aS29, e_aI30, e_aS30, e_aI31, e_aS31, e_aI32, e_aS32, e_aI33, e_aS33, e_aI34, e_aS34, e_aI35, e_aS35, e_aI36, e_aS36, e_aI37, e_aS37, e_aI38, e_aS38, e_aI39, e_aS39, e_aI40, e_aS40, e_aI41, e_aS41, e_aI42, e_aS42, e_aI43, e_aS43, e_aI44, e_aS44, e_aI45, e_aS45, e_aI46, e_aS46, e_aI47, e_aS47, e_aI48, e_aS48, e_aI49, e_aS49, e_aI50, e_aS50, e_aI51, e_aS51, e_aI52, e_aS52, e_aI53, e_aS53, e_aI54, e_aS54, e_aI55, e_aS55, e_aI56, e_aS56, e_aI57, e_aS57, e_aI58, e_aS58, st, stA, stB, inb, and_self, if_true, if_false, i32_00, i32_10, i32_m40, i32_m60]) (by simp only [f_M_two, no_2, b_M_two_36, mc 2, md 2, ecd, w0, e_nm, e_bI, e_bR, e_bV, e_gI4, e_pI4, e_cV4, e_gR4_0, e_gR4_1, e_gR4_2, e_gR4_3, e_gR4_4, e_gR4_5, e_gR4_6, e_gR4_7, e_gR4_8, e_gR4_9, e_gR4_10, e_gR4_11, e_aI5, e_aS5, e_aI6, e_aS6, e_gI7, e_pI7, e_cV7, e_gR7, e_gI8, e_pI8, e_cV8, e_gR8, e_gI9, e_pI9, e_cV9, e_gR9, e_gI10, e_pI10, e_cV10, e_gR10, e_gI11, e_pI11, e_cV11, e_gR11_0, e_aI12, e_aS12, e_gI13, e_pI13, e_cV13, e_gR13_0, e_aI14, e_aS14, e_gI15, e_pI15, e_cV15, e_gI16, e_pI16, e_cV16, e_gR16_0, e_gR16_3, e_gR16_4, e_gR16_5, e_gR16_6, e_aI17, e_aS17, e_aI18, e_aS18, e_aI19, e_aS19, e_zI20, e_zS20, e_aI21, e_aS21, e_gI22, e_pI22, e_cV22, e_gR22_0, e_gR22_1, e_gR22_3, e_aI23, e_aS23, e_aI24, e_aS24, e_aI25, e_aS25, e_aI26, e_aS26, e_gI27, e_pI27, e_cV27, e_gR27_7, e_gR27_8, e_gR27_9, e_gR27_10, e_gR27_11, e_gR27_12, e_gR27_13, e_gR27_14, e_gR27_15, e_gR27_16, e_gR27_17, e_gR27_18, e_gR27_19, e_gR27_20, e_gR27_21, e_gR27_22, e_gR27_23, e_gR27_24, e_gR27_25, e_gR27_26, e_gR27_27, e_gR27_28, e_gR27_29, e_gR27_30, e_gR27_31, e_gR27_32, e_gR27_33, e_gR27_34, e_gR27_35, e_gR27_36, e_gR27_37, e_aI28, e_aS28, e_aI29, e_aS29, e_aI30, e_aS30, e_aI31, e_aS31, e_aI32, e_aS32, e_aI33, e_aS33, e_aI34, e_aS34, e_aI35, e_aS35, e_aI36, e_aS36, e_aI37, e_aS37, e_aI38, e_aS38, e_aI39, e_aS39, e_aI40, e_aS40, e_aI41, e_aS41, e_aI42, e_aS42, e_aI43, e_aS43, e_aI44, e_aS44, e_aI45, e_aS45, e_aI46, e_aS46, e_aI47, e_aS47, e_aI48, e_aS48, e_aI49, e_aS49, e_aI50, e_aS50, e_aI51, e_aS51, e_aI52, e_aS52, e_aI53, e_aS53, e_aI54, e_aS54, e_aI55, e_aS55, e_aI56, e_aS56, e_aI57, e_aS57, e_aI58, e_aS58, st, stA, stB, inb, and_self, if_true, if_false, i32_00, i32_10, i32_m40, i32_m60])
  by_cases w2 : w ≤ 2
  · have cx : CX B C nb c d μ := ⟨st, i.2.1, i.2.2.1, i.2.2.2.2.2.1, i.2.2.2.1, g2, g1, g3, cc, cd⟩
    have frc : Fr S15 μ (si (si (si (si μ 15 0 (-9)) 15 1 (-9)) 15 2 (-9)) 15 3 0) := (Fr15.tr Fr15).tr (Fr15.tr Fr15)
    obtain ⟨ν, o1, o2, o3⟩ := H_two_out cx hnb 120000 0 _ (by omega) (by omega) frc (show PS _ (-9, 0, -9, -9) from ⟨rfl, rfl, rfl, rfl⟩)
    have cv := cx.fr o2
    have sv := cv.1
    have sC : ∀ a b x a1 b1 x1 a2 b2 x2, ST (si (si (si μ a b x) a1 b1 x1) a2 b2 x2) := fun _ _ _ _ _ _ _ _ _ => st
    have hp : f_H_pairBoats 4 (C c) (C d) μ = some (.inl 0, ν) := by
      unfold f_H_pairBoats f_P_clear
      rw [e_gR4_8 st, e_cV15 st, e_pI15 st, e_pI15 (stA _ _ _), e_pI15 (stB _ _ _ _ _ _), e_pI15 (sC _ _ _ _ _ _ _ _ _), e_bV]
      exact o1
    have hm := M_two_out cv hnb (by omega) (by omega) (fun b3 b4 b6 b7 m_ => b_M_two_222 b3 b4 b6 b7 m_) w (fun b => rea μ b c) (fun b => rea μ b d) (fun b => rea_fr o2 b c) (fun b => rea_fr o2 b d) 120000 0 _ (by omega) (by omega) rfl
    have iv : Inv ν := i.fr o2 (fun h k q => by have : h = 15 := q; omega)
    refine ⟨if w = 0 then (ott (fun b => rea μ b c) (fun b => rea μ b d) nb nb).1 else if w = 1 then (ott (fun b => rea μ b c) (fun b => rea μ b d) nb nb).2.2.1 else (ott (fun b => rea μ b c) (fun b => rea μ b d) nb nb).2.2.2, ν, ν, ?_, sv, ?_, iv⟩
    · unfold f_H_two
      rw [e_cV4 st, hK, e_bR, e_cV4 st, hKd, e_bR, if_neg hC, if_neg hD, if_neg ecd, if_neg w0, if_pos w2, e_cV4 st, hp, e_bV, e_gR4_8 sv, e_gI15 sv, e_gR4_8 sv, e_gI15 sv, e_gR4_8 sv, e_gI15 sv, o3.1, o3.2.2.1, o3.2.2.2]
      split
      · rfl
      · split <;> rfl
    · unfold f_M_two
      rw [e_cV27 sv, MisCall_t sv (by rw [o2.2 _ _ (by decide)]; exact c1) (by omega) hc, e_bI, if_neg (by decide), e_cV27 sv, MisCall_t sv (by rw [o2.2 _ _ (by decide)]; exact c1) (by omega) hd, e_bI, if_neg (by decide), if_neg ecd, if_neg w0, if_pos w2]
      refine Eq.trans hm ?_
      show b_M_two_222 _ _ _ _ _ = _
      unfold b_M_two_222
      split
      · rfl
      · split <;> rfl
  · exact Opx.ref (c := -2) i 2 (by decide) (by simp only [f_H_two, rf_2, b_H_two_44, hK, hC, hKd, hD, ecd, w0, w2, e_nm, e_bI, e_bR, e_bV, e_gI4, e_pI4, e_cV4, e_gR4_0, e_gR4_1, e_gR4_2, e_gR4_3, e_gR4_4, e_gR4_5, e_gR4_6, e_gR4_7, e_gR4_8, e_gR4_9, e_gR4_10, e_gR4_11, e_aI5, e_aS5, e_aI6, e_aS6, e_gI7, e_pI7, e_cV7, e_gR7, e_gI8, e_pI8, e_cV8, e_gR8, e_gI9, e_pI9, e_cV9, e_gR9, e_gI10, e_pI10, e_cV10, e_gR10, e_gI11, e_pI11, e_cV11, e_gR11_0, e_aI12, e_aS12, e_gI13, e_pI13, e_cV13, e_gR13_0, e_aI14, e_aS14, e_gI15, e_pI15, e_cV15, e_gI16, e_pI16, e_cV16, e_gR16_0, e_gR16_3, e_gR16_4, e_gR16_5, e_gR16_6, e_aI17, e_aS17, e_aI18, e_aS18, e_aI19, e_aS19, e_zI20, e_zS20, e_aI21, e_aS21, e_gI22, e_pI22, e_cV22, e_gR22_0, e_gR22_1, e_gR22_3, e_aI23, e_aS23, e_aI24, e_aS24, e_aI25, e_aS25, e_aI26, e_aS26, e_gI27, e_pI27, e_cV27, e_gR27_7, e_gR27_8, e_gR27_9, e_gR27_10, e_gR27_11, e_gR27_12, e_gR27_13, e_gR27_14, e_gR27_15, e_gR27_16, e_gR27_17, e_gR27_18, e_gR27_19, e_gR27_20, e_gR27_21, e_gR27_22, e_gR27_23, e_gR27_24, e_gR27_25, e_gR27_26, e_gR27_27, e_gR27_28, e_gR27_29, e_gR27_30, e_gR27_31, e_gR27_32, e_gR27_33, e_gR27_34, e_gR27_35, e_gR27_36, e_gR27_37, e_aI28, e_aS28, e_aI29, e_aS29, e_aI30, e_aS30, e_aI31, e_aS31, e_aI32, e_aS32, e_aI33, e_aS33, e_aI34, e_aS34, e_aI35, e_aS35, e_aI36, e_aS36, e_aI37, e_aS37, e_aI38, e_aS38, e_aI39, e_aS39, e_aI40, e_aS40, e_aI41, e_aS41, e_aI42, e_aS42, e_aI43, e_aS43, e_aI44, e_aS44, e_aI45, e_aS45, e_aI46, e_aS46, e_aI47, e_aS47, e_aI48, e_aS48, e_aI49, e_aS49, e_aI50, e_aS50, e_aI51, e_aS51, e_aI52, e_aS52, e_aI53, e_aS53, e_aI54, e_aS54, e_aI55, e_aS55, e_aI56, e_aS56, e_aI57, e_aS57, e_aI58, e_aS58, st, stA, stB, inb, and_self, if_true, if_false, i32_00, i32_10, i32_m40, i32_m60]) (by simp only [f_M_two, no_2, b_M_two_36, mc 2, md 2, ecd, w0, w2, e_nm, e_bI, e_bR, e_bV, e_gI4, e_pI4, e_cV4, e_gR4_0, e_gR4_1, e_gR4_2, e_gR4_3, e_gR4_4, e_gR4_5, e_gR4_6, e_gR4_7, e_gR4_8, e_gR4_9, e_gR4_10, e_gR4_11, e_aI5, e_aS5, e_aI6, e_aS6, e_gI7, e_pI7, e_cV7, e_gR7, e_gI8, e_pI8, e_cV8, e_gR8, e_gI9, e_pI9, e_cV9, e_gR9, e_gI10, e_pI10, e_cV10, e_gR10, e_gI11, e_pI11, e_cV11, e_gR11_0, e_aI12, e_aS12, e_gI13, e_pI13, e_cV13, e_gR13_0, e_aI14, e_aS14, e_gI15, e_pI15, e_cV15, e_gI16, e_pI16, e_cV16, e_gR16_0, e_gR16_3, e_gR16_4, e_gR16_5, e_gR16_6, e_aI17, e_aS17, e_aI18, e_aS18, e_aI19, e_aS19, e_zI20, e_zS20, e_aI21, e_aS21, e_gI22, e_pI22, e_cV22, e_gR22_0, e_gR22_1, e_gR22_3, e_aI23, e_aS23, e_aI24, e_aS24, e_aI25, e_aS25, e_aI26, e_aS26, e_gI27, e_pI27, e_cV27, e_gR27_7, e_gR27_8, e_gR27_9, e_gR27_10, e_gR27_11, e_gR27_12, e_gR27_13, e_gR27_14, e_gR27_15, e_gR27_16, e_gR27_17, e_gR27_18, e_gR27_19, e_gR27_20, e_gR27_21, e_gR27_22, e_gR27_23, e_gR27_24, e_gR27_25, e_gR27_26, e_gR27_27, e_gR27_28, e_gR27_29, e_gR27_30, e_gR27_31, e_gR27_32, e_gR27_33, e_gR27_34, e_gR27_35, e_gR27_36, e_gR27_37, e_aI28, e_aS28, e_aI29, e_aS29, e_aI30, e_aS30, e_aI31, e_aS31, e_aI32, e_aS32, e_aI33, e_aS33, e_aI34, e_aS34, e_aI35, e_aS35, e_aI36, e_aS36, e_aI37, e_aS37, e_aI38, e_aS38, e_aI39, e_aS39, e_aI40, e_aS40, e_aI41, e_aS41, e_aI42, e_aS42, e_aI43, e_aS43, e_aI44, e_aS44, e_aI45, e_aS45, e_aI46, e_aS46, e_aI47, e_aS47, e_aI48, e_aS48, e_aI49, e_aS49, e_aI50, e_aS50, e_aI51, e_aS51, e_aI52, e_aS52, e_aI53, e_aS53, e_aI54, e_aS54, e_aI55, e_aS55, e_aI56, e_aS56, e_aI57, e_aS57, e_aI58, e_aS58, st, stA, stB, inb, and_self, if_true, if_false, i32_00, i32_10, i32_m40, i32_m60])
