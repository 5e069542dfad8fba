/-! the flanks: all plans; flanks, flank -/
abbrev S9 (h k : Nat) : Prop := h = 58 ∨ (h = 27 ∧ 38 ≤ k)
abbrev S5 (h _k : Nat) : Prop := h = 56 ∨ h = 57
theorem M_h338 {ν0 : Mem} (s0 : ST ν0) (rd : Nat → Int32) {w : Nat} (bare : ∀ j, j < 6 → rd j = 0 → gi ν0 55 (bc rd j) = nI j) (cho : ∀ i, i < bc rd 6 → gi ν0 57 i = nI (w / 7 ^ (bc rd 6 - 1 - i) % 7)) (K : Int32 → Int32 → Mem → Option (LV × Mem)) (a2 a3 a4 : Int32) : ∀ f i ν, i ≤ bc rd 6 → bc rd 6 - i < f → Fr S58 ν0 ν → (∀ k, k < 6 → gi ν 58 k = if rd k = 0 ∧ bc rd k < i then nI (dgt rd (bc rd 6) w k) else gi ν0 58 k) → ∃ ν', k_M_helps_338 K 27 (nI (bc rd 6)) a2 a3 a4 f (nI i) ν = K a3 a4 ν' ∧ Fr S58 ν0 ν' ∧ ∀ k, k < 6 → gi ν' 58 k = if rd k = 0 then nI (dgt rd (bc rd 6) w k) else gi ν0 58 k
  | 0, i, ν, _, h, _, _ => by omega
  | f + 1, i, ν, hi, h, fr, inv => by
    have st := s0.fr fr
    have m6 := bc_n rd 6
    simp only [k_M_helps_338]
    by_cases q : i = bc rd 6
    · subst q
      rw [if_pos (nI_le (Nat.le_refl _) (by omega))]
      refine ⟨ν, rfl, fr, fun k hk => ?_⟩
      rw [inv k hk]
      by_cases z : rd k = 0
      · rw [if_pos z, if_pos ⟨z, bc_lt rd hk z⟩]
      · rw [if_neg z, if_neg (fun q => z q.1)]
    · have im : i < bc rd 6 := by omega
      obtain ⟨t, t6, r, bt⟩ := bc_ex rd 6 im
      have ii : inb (nI i) 6 := inb_nI (by omega) (by omega)
      have it : inb (nI t) 6 := inb_nI t6 (by omega)
      have b55 : gi ν 55 i = nI t := by rw [fr.2 55 i (by omega), ← bt]; exact bare t t6 r
      have hc : gi ν 57 i = nI (dgt rd (bc rd 6) w t) := by
        rw [fr.2 57 i (by omega), cho i im]
        unfold dgt
        rw [bt]
      rw [if_neg (nI_ge im (by omega)), e_gR27_37 st, e_gR27_34 st, e_aI55 st ii, cl_nI (by omega), b55, e_gR27_36 st, e_aI57 st ii, cl_nI (by omega), hc, e_aS58 st it, cl_nI (by omega), nI_1]
      refine M_h338 s0 rd bare cho K a2 a3 a4 f (i + 1) _ (by omega) (by omega) (fr.tr (Fr.si (S := S58) rfl)) (fun k hk => ?_)
      by_cases e : k = t
      · rw [e, gi_eq, if_pos ⟨r, by omega⟩]
      · rw [gi_ne (by omega), inv k hk]
        by_cases z : rd k = 0
        · by_cases l : bc rd k < i
          · rw [if_pos ⟨z, l⟩, if_pos ⟨z, by omega⟩]
          · have ne : ¬ bc rd k = i := fun y => e (by rw [← bsn_at rd hk z, ← bsn_at rd t6 r, y, bt])
            rw [if_neg (fun q => l q.2), if_neg (fun q => by have := q.2; omega)]
        · rw [if_neg (fun q => z q.1), if_neg (fun q => z q.1)]
/-- the best plan so far, in the model's cells -/
def BM (rd : Nat → Int32) (m : Nat) (b : Option B3) (a3 : Int32) (ν : Mem) : Prop := match b with
  | none => a3 = 0 ∧ ∀ k, k < 6 → gi ν 58 k = 6
  | some (h, ms, w) => a3 = 1 ∧ gi ν 27 38 = h ∧ gi ν 27 39 = ms ∧ ∀ k, k < 6 → gi ν 58 k = if rd k = 0 then nI (dgt rd m w k) else 6
theorem BM.fr {rd : Nat → Int32} {m : Nat} {b : Option B3} {a3 : Int32} {ν ν' : Mem} (f : Fr S5 ν ν') (a : BM rd m b a3 ν) : BM rd m b a3 ν' := by
  match b, a with
  | none, a => exact ⟨a.1, fun k hk => (f.2 58 k (by omega)).trans (a.2 k hk)⟩
  | some (h0, m0, w0), a => exact ⟨a.1, (f.2 27 38 (by omega)).trans a.2.1, (f.2 27 39 (by omega)).trans a.2.2.1, fun k hk => (f.2 58 k (by omega)).trans (a.2.2.2 k hk)⟩
theorem BM.sx {rd : Nat → Int32} {m : Nat} {b : Option B3} {a3 : Int32} {ν : Mem} (a : BM rd m b a3 ν) : ∀ k, k < 6 → ¬ rd k = 0 → gi ν 58 k = 6 := by
  match b, a with
  | none, a => exact fun k hk _ => a.2 k hk
  | some (h0, m0, w0), a => exact fun k hk z => (a.2.2.2 k hk).trans (if_neg z)
theorem M_take {ν : Mem} (st : ST ν) (rd : Nat → Int32) {w : Nat} (bare : ∀ j, j < 6 → rd j = 0 → gi ν 55 (bc rd j) = nI j) (cho : ∀ i, i < bc rd 6 → gi ν 57 i = nI (w / 7 ^ (bc rd 6 - 1 - i) % 7)) (sx : ∀ k, k < 6 → ¬ rd k = 0 → gi ν 58 k = 6) (C : Int32 → Int32 → Mem → Option (LV × Mem)) (a2 b6 b7 : Int32) : ∃ ν', b_M_helps_321 C 27 (nI (bc rd 6)) a2 (nI w) b6 b7 ν = C 1 (nI (w + 1)) ν' ∧ Fr S9 ν ν' ∧ BM rd (bc rd 6) (some (b6, b7, w)) 1 ν' := by
  have sA : ∀ a b x, ST (si ν a b x) := fun _ _ _ => st
  have sB : ∀ a b x a1 b1 x1, ST (si (si ν a b x) a1 b1 x1) := fun _ _ _ _ _ _ => st
  have m6 := bc_n rd 6
  obtain ⟨ν1, x1, x2, x3⟩ := M_h338 (ν0 := si (si ν 27 38 b6) 27 39 b7) (sB _ _ _ _ _ _) rd (w := w) (fun j hj z => by rw [gi_ne (by omega), gi_ne (by omega)]; exact bare j hj z) (fun i hi => by rw [gi_ne (by omega), gi_ne (by omega)]; exact cho i hi) (fun b3 b4 m_ => b_M_helps_369 C 27 (nI (bc rd 6)) a2 b3 b4 m_) a2 1 (nI w) 120000 0 _ (by omega) (by omega) Fr.rf (fun k hk => by rw [if_neg (fun q => absurd q.2 (Nat.not_lt_zero _))])
  refine ⟨ν1, ?_, ?_, rfl, ?_, ?_, fun k hk => ?_⟩
  · unfold b_M_helps_321
    rw [e_pI27 st, e_pI27 (sA _ _ _)]
    refine Eq.trans x1 ?_
    show C 1 (nI w + 1) ν1 = _
    rw [nI_1]
  · exact (Fr.si (S := S9) (by omega)).tr ((Fr.si (S := S9) (by omega)).tr (x2.up (fun h k q => by omega)))
  · rw [x2.2 27 38 (by omega), gi_ne (by omega), gi_eq]
  · rw [x2.2 27 39 (by omega), gi_eq]
  · rw [x3 k hk]
    by_cases z : rd k = 0
    · rw [if_pos z, if_pos z]
    · rw [if_neg z, if_neg z, gi_ne (by omega), gi_ne (by omega)]
      exact sx k hk z
theorem M_h77 {μ : Mem} (sT : ST μ) {n : Nat} (hn : n ≤ 8) (h1 : gi μ 27 2 = nI n) (mi : I_miles μ) : ∀ f w a3 ν, w ≤ (7 ^ bc (rdv μ n) 6) → (7 ^ bc (rdv μ n) 6) - w < f → Fr SF μ ν → (∀ j, j < 6 → rdv μ n j = 0 → gi ν 55 (bc (rdv μ n) j) = nI j) → BM (rdv μ n) (bc (rdv μ n) 6) (fl (rdv μ n) (gi μ 28) (bc (rdv μ n) 6) w) a3 ν → ∃ ν', k_M_helps_77 27 (nI (bc (rdv μ n) 6)) (nI (7 ^ bc (rdv μ n) 6)) f a3 (nI w) ν = some (.inl 0, ν') ∧ Fr SF μ ν' ∧ ∃ a, BM (rdv μ n) (bc (rdv μ n) 6) (fl (rdv μ n) (gi μ 28) (bc (rdv μ n) 6) (7 ^ bc (rdv μ n) 6)) a ν'
  | 0, w, a3, ν, _, h, _, _, _ => by omega
  | f + 1, w, a3, ν, hw, h, fr, bare, bm => by
    have m6 := bc_n (rdv μ n) 6
    have p6 : (7 ^ bc (rdv μ n) 6) ≤ 7 ^ 6 := Nat.pow_le_pow_right (by decide) m6
    have p7 : (7 ^ bc (rdv μ n) 6) ≤ 117649 := p6
    have st := sT.fr fr
    simp only [k_M_helps_77]
    by_cases q : w = (7 ^ bc (rdv μ n) 6)
    · rw [if_pos (by rw [q]; exact nI_le (Nat.le_refl _) (by omega))]
      rw [q] at bm
      exact ⟨ν, rfl, fr, a3, bm⟩
    · have wl : w < (7 ^ bc (rdv μ n) 6) := by omega
      rw [if_neg (nI_ge wl (by omega))]
      obtain ⟨ν1, x1, x2, x3⟩ := M_h86 sT hn h1 fr (fun b3 b4 m_ => b_M_helps_114 (k_M_helps_77 27 (nI (bc (rdv μ n) 6)) (nI (7 ^ bc (rdv μ n) 6)) f) 27 (nI (bc (rdv μ n) 6)) (nI (7 ^ bc (rdv μ n) 6)) b3 b4 m_) (nI (bc (rdv μ n) 6)) (nI (7 ^ bc (rdv μ n) 6)) a3 (nI w) 120000 0 ν (by omega) (by omega) Fr.rf (fun j hj => by omega)
      have s1 := st.fr x2
      obtain ⟨ν2, y1, y2, y3⟩ := M_h123 s1 (fun b3 b4 m_ => b_M_helps_153 (k_M_helps_77 27 (nI (bc (rdv μ n) 6)) (nI (7 ^ bc (rdv μ n) 6)) f) 27 (nI (bc (rdv μ n) 6)) (nI (7 ^ bc (rdv μ n) 6)) b3 b4 m_) (m := (bc (rdv μ n) 6)) (w := w) m6 (by omega) (nI (7 ^ bc (rdv μ n) 6)) a3 (nI w) 120000 (bc (rdv μ n) 6) ν1 (Nat.le_refl _) (by omega) Fr.rf (fun i g1 g2 => by omega)
      rw [Nat.sub_self, Nat.pow_zero, Nat.div_one] at y1
      have s2 := s1.fr y2
      obtain ⟨ν3, b6, b7, b8, z1, z2, z3⟩ := M_h165 s2 (rdv μ n) (gi μ 28) (w := w) (fun j hj z => by rw [y2.2 55 _ (by omega), x2.2 55 _ (by omega)]; exact bare j hj z) y3 (fun j hj => by rw [y2.2 28 _ (by omega), x2.2 28 _ (by omega), fr.2 28 _ (by omega)]) (fun j hj => (mi j hj).2) (fun b3 b4 b6 b7 b8 m_ => b_M_helps_282 (k_M_helps_77 27 (nI (bc (rdv μ n) 6)) (nI (7 ^ bc (rdv μ n) 6)) f) 27 (nI (bc (rdv μ n) 6)) (nI (7 ^ bc (rdv μ n) 6)) b3 b4 b6 b7 b8 m_) (nI (7 ^ bc (rdv μ n) 6)) a3 (nI w) 120000 0 0 0 1 ν2 (by omega) (by omega) Fr.rf ⟨rfl, rfl, rfl, fun k hk => by
        show mx 0 (rdv μ n k - 1) = mx 0 (gi ν2 56 k)
        rw [y2.2 56 k (by omega), x3 k hk]⟩
      have s3 := s2.fr z2
      have f5 : Fr S5 ν ν3 := (x2.up (fun h k q => by omega)).tr ((y2.up (fun h k q => by omega)).tr (z2.up (fun h k q => by omega)))
      have fr3 : Fr SF μ ν3 := fr.tr (f5.up (fun h k q => by omega))
      have all : k_M_helps_86 (fun b3 b4 m_ => b_M_helps_114 (k_M_helps_77 27 (nI (bc (rdv μ n) 6)) (nI (7 ^ bc (rdv μ n) 6)) f) 27 (nI (bc (rdv μ n) 6)) (nI (7 ^ bc (rdv μ n) 6)) b3 b4 m_) 27 (nI (bc (rdv μ n) 6)) (nI (7 ^ bc (rdv μ n) 6)) a3 (nI w) 120000 0 ν = b_M_helps_282 (k_M_helps_77 27 (nI (bc (rdv μ n) 6)) (nI (7 ^ bc (rdv μ n) 6)) f) 27 (nI (bc (rdv μ n) 6)) (nI (7 ^ bc (rdv μ n) 6)) a3 (nI w) b6 b7 b8 ν3 := by
        refine Eq.trans x1 ?_
        show b_M_helps_114 (k_M_helps_77 27 (nI (bc (rdv μ n) 6)) (nI (7 ^ bc (rdv μ n) 6)) f) 27 (nI (bc (rdv μ n) 6)) (nI (7 ^ bc (rdv μ n) 6)) a3 (nI w) ν1 = _
        unfold b_M_helps_114
        rw [e_nm]
        refine Eq.trans y1 ?_
        show b_M_helps_153 (k_M_helps_77 27 (nI (bc (rdv μ n) 6)) (nI (7 ^ bc (rdv μ n) 6)) f) 27 (nI (bc (rdv μ n) 6)) (nI (7 ^ bc (rdv μ n) 6)) a3 (nI w) ν2 = _
        unfold b_M_helps_153
        exact z1
      have bm3 := bm.fr f5
      have bare3 : ∀ j, j < 6 → rdv μ n j = 0 → gi ν3 55 (bc (rdv μ n) j) = nI j := fun j hj z => (f5.2 55 _ (by omega)).trans (bare j hj z)
      have cho3 : ∀ i, i < (bc (rdv μ n) 6) → gi ν3 57 i = nI (w / 7 ^ ((bc (rdv μ n) 6) - 1 - i) % 7) := fun i hi => (z2.2 57 i (by omega)).trans (y3 i hi)
      have keepOn : fl (rdv μ n) (gi μ 28) (bc (rdv μ n) 6) (w + 1) = fl (rdv μ n) (gi μ 28) (bc (rdv μ n) 6) w → ∃ ν', b_M_helps_369 (k_M_helps_77 27 (nI (bc (rdv μ n) 6)) (nI (7 ^ bc (rdv μ n) 6)) f) 27 (nI (bc (rdv μ n) 6)) (nI (7 ^ bc (rdv μ n) 6)) a3 (nI w) ν3 = some (.inl 0, ν') ∧ Fr SF μ ν' ∧ ∃ a, BM (rdv μ n) (bc (rdv μ n) 6) (fl (rdv μ n) (gi μ 28) (bc (rdv μ n) 6) (7 ^ bc (rdv μ n) 6)) a ν' := by
        intro e
        unfold b_M_helps_369
        rw [nI_1]
        exact M_h77 sT hn h1 mi f (w + 1) a3 ν3 (by omega) (by omega) fr3 bare3 (by rw [e]; exact bm3)
      have takeOn : fl (rdv μ n) (gi μ 28) (bc (rdv μ n) 6) (w + 1) = some (b6, b7, w) → ∃ ν', b_M_helps_321 (k_M_helps_77 27 (nI (bc (rdv μ n) 6)) (nI (7 ^ bc (rdv μ n) 6)) f) 27 (nI (bc (rdv μ n) 6)) (nI (7 ^ bc (rdv μ n) 6)) (nI w) b6 b7 ν3 = some (.inl 0, ν') ∧ Fr SF μ ν' ∧ ∃ a, BM (rdv μ n) (bc (rdv μ n) 6) (fl (rdv μ n) (gi μ 28) (bc (rdv μ n) 6) (7 ^ bc (rdv μ n) 6)) a ν' := by
        intro e
        obtain ⟨ν4, t1, t2, t3⟩ := M_take s3 (rdv μ n) (w := w) bare3 cho3 bm3.sx (k_M_helps_77 27 (nI (bc (rdv μ n) 6)) (nI (7 ^ bc (rdv μ n) 6)) f) (nI (7 ^ bc (rdv μ n) 6)) b6 b7
        rw [t1]
        exact M_h77 sT hn h1 mi f (w + 1) 1 ν4 (by omega) (by omega) (fr3.tr (t2.up (fun h k q => by omega))) (fun j hj z => (t2.2 55 _ (by omega)).trans (bare3 j hj z)) (by rw [e]; exact t3)
      have fin : ∃ ν', b_M_helps_282 (k_M_helps_77 27 (nI (bc (rdv μ n) 6)) (nI (7 ^ bc (rdv μ n) 6)) f) 27 (nI (bc (rdv μ n) 6)) (nI (7 ^ bc (rdv μ n) 6)) a3 (nI w) b6 b7 b8 ν3 = some (.inl 0, ν') ∧ Fr SF μ ν' ∧ ∃ a, BM (rdv μ n) (bc (rdv μ n) 6) (fl (rdv μ n) (gi μ 28) (bc (rdv μ n) 6) (7 ^ bc (rdv μ n) 6)) a ν' := by
        unfold b_M_helps_282
        cases c : CK (rdv μ n) (gi μ 28) (bc (rdv μ n) 6) w with
        | none =>
          rw [c] at z3
          have z3' : b8 = 0 := z3
          rw [if_pos z3']
          exact keepOn (by rw [fl_s, c])
        | some s =>
          rw [c] at z3
          obtain ⟨t1, t2, t3, t4⟩ := z3
          have fs : fl (rdv μ n) (gi μ 28) (bc (rdv μ n) 6) (w + 1) = btr (fl (rdv μ n) (gi μ 28) (bc (rdv μ n) 6) w) b6 b7 w := by rw [fl_s, c, t2, t3]
          rw [if_neg (by rw [t1]; decide)]
          cases d : fl (rdv μ n) (gi μ 28) (bc (rdv μ n) 6) w with
          | none =>
            rw [d] at bm3 fs
            have a0 : a3 = 0 := bm3.1
            rw [if_pos a0]
            exact takeOn fs
          | some b =>
            obtain ⟨h0, m0, w0⟩ := b
            rw [d] at bm3 fs
            have a1 : a3 = 1 := bm3.1
            have e1 : gi ν3 27 38 = h0 := bm3.2.1
            have e2 : gi ν3 27 39 = m0 := bm3.2.2.1
            have fs2 : fl (rdv μ n) (gi μ 28) (bc (rdv μ n) 6) (w + 1) = (if b6 < h0 then some (h0, m0, w0) else if b6 = h0 then (if b7 < m0 then some (b6, b7, w) else some (h0, m0, w0)) else some (b6, b7, w)) := fs
            rw [if_neg (by rw [a1]; decide), e_gI27 s3, e1]
            by_cases c1 : b6 < h0
            · rw [if_pos c1] at fs2 ⊢
              exact keepOn (fs2.trans d.symm)
            · rw [if_neg c1] at fs2 ⊢
              rw [e_gI27 s3, e1]
              by_cases c2 : b6 = h0
              · rw [if_pos c2] at fs2 ⊢
                rw [e_gI27 s3, e2]
                by_cases c3 : b7 < m0
                · rw [if_pos c3] at fs2 ⊢
                  exact takeOn fs2
                · rw [if_neg c3] at fs2 ⊢
                  exact keepOn (fs2.trans d.symm)
              · rw [if_neg c2] at fs2 ⊢
                exact takeOn fs2
      obtain ⟨ν', r1, r2⟩ := fin
      exact ⟨ν', Eq.trans all r1, r2⟩
theorem M_hlp {μ : Mem} (sT : ST μ) {n : Nat} (hn : n ≤ 8) (h1 : gi μ 27 2 = nI n) (mi : I_miles μ) : ∃ ν, f_M_helps 27 μ = some (.inl 0, ν) ∧ Fr SF μ ν ∧ ∃ a, BM (rdv μ n) (bc (rdv μ n) 6) (fl (rdv μ n) (gi μ 28) (bc (rdv μ n) 6) (7 ^ bc (rdv μ n) 6)) a ν := by
  have m6 := bc_n (rdv μ n) 6
  have p6 : (7 ^ bc (rdv μ n) 6) ≤ 7 ^ 6 := Nat.pow_le_pow_right (by decide) m6
  have p7 : (7 ^ bc (rdv μ n) 6) ≤ 117649 := p6
  obtain ⟨ν1, a1, a2, a3⟩ := M_h4 sT hn h1 (fun b0 b1 m_ => b_M_helps_42 b0 b1 m_) 120000 0 μ (by omega) (by omega) Fr.rf (fun j hj => by omega)
  have s1 := sT.fr a2
  have sA : ∀ a b x, ST (si ν1 a b x) := fun _ _ _ => s1
  obtain ⟨ν2, b1, b2, b3⟩ := M_h77 sT hn h1 mi 120000 0 0 (si (si ν1 27 38 0) 27 39 0) (Nat.zero_le _) (by omega) (a2.tr ((Fr.si (S := SF) (by omega)).tr (Fr.si (S := SF) (by omega)))) (fun j hj z => by rw [gi_ne (by omega), gi_ne (by omega)]; exact (a3 j hj).2 z) ⟨rfl, fun k hk => by rw [gi_ne (by omega), gi_ne (by omega)]; exact (a3 k hk).1⟩
  refine ⟨ν2, ?_, b2, b3⟩
  unfold f_M_helps
  refine Eq.trans a1 ?_
  show b_M_helps_42 27 (nI (bc (rdv μ n) 6)) ν1 = _
  unfold b_M_helps_42
  rw [e_pI27 s1, e_pI27 (sA _ _ _)]
  refine Eq.trans (M_h56 (fun b0 b1 b2 m_ => b_M_helps_72 b0 b1 b2 m_) m6 _ 120000 0 (by omega) (by omega)) ?_
  show b_M_helps_72 27 (nI (bc (rdv μ n) 6)) (nI (7 ^ bc (rdv μ n) 6)) _ = _
  unfold b_M_helps_72
  exact b1
theorem CK_last (rd ml : Nat → Int32) : ∀ j, CK rd ml j (7 ^ j - 1) = some (st0 rd)
  | 0 => rfl
  | j + 1 => by
    have p : 0 < 7 ^ j := Nat.pow_pos (by decide)
    have e1 : (7 ^ (j + 1) - 1) / 7 = 7 ^ j - 1 := by rw [Nat.pow_succ]; omega
    have e2 : (7 ^ (j + 1) - 1) % 7 = 6 := by rw [Nat.pow_succ]; omega
    rw [CK_s, e1, CK_last rd ml j, e2]
    show sp2 ml (bsn rd j) 6 (st0 rd) = _
    unfold sp2
    rw [if_pos rfl]
theorem btr_some (b : Option B3) (h ms : Int32) (w : Nat) : ∃ x y z, btr b h ms w = some (x, y, z) := by
  match b with
  | none => exact ⟨_, _, _, rfl⟩
  | some (h0, m0, w0) =>
    show ∃ x y z, (if h < h0 then some (h0, m0, w0) else if h = h0 then (if ms < m0 then some (h, ms, w) else some (h0, m0, w0)) else some (h, ms, w)) = some (x, y, z)
    split
    · exact ⟨_, _, _, rfl⟩
    · split
      · split
        · exact ⟨_, _, _, rfl⟩
        · exact ⟨_, _, _, rfl⟩
      · exact ⟨_, _, _, rfl⟩
theorem fl_some (rd ml : Nat → Int32) (m : Nat) : ∃ x y z, fl rd ml m (7 ^ m) = some (x, y, z) := by
  have p : 0 < 7 ^ m := Nat.pow_pos (by decide)
  obtain ⟨W, hW⟩ : ∃ W, 7 ^ m = W + 1 := ⟨7 ^ m - 1, by omega⟩
  have c := CK_last rd ml m
  rw [hW, Nat.add_sub_cancel] at c
  rw [hW, fl_s, c]
  exact btr_some _ _ _ _
/-- both sides find one plan -/
theorem FLK {μ : Mem} (i : Inv μ) : ∃ ν ν2, f_H_planFlanks 4 μ = some (.inl 0, ν) ∧ ST ν ∧ f_M_helps 27 ν = some (.inl 0, ν2) ∧ ST ν2 ∧ Inv ν2 ∧ ∃ (rd : Nat → Int32) (m : Nat) (h ms : Int32) (w : Nat), gi ν 16 1 = h ∧ gi ν 16 2 = ms ∧ gi ν2 27 38 = h ∧ gi ν2 27 39 = ms ∧ ∀ k, k < 6 → gi ν 17 k = frv rd m w k ∧ gi ν2 58 k = if rd k = 0 then nI (dgt rd m w k) else 6 := by
  have st := i.1
  have em := i.2.1.1
  obtain ⟨B, n, hn, g1, g2, g3, -⟩ := i.2.2.2.2.2.2.2.2.1
  obtain ⟨ν, a1, a2, a3⟩ := H_plan st hn g2 g3 em i.2.2.1
  have sv := st.fr a2
  obtain ⟨ν2, b1, b2, a, b3⟩ := M_hlp sv hn ((a2.2 27 2 (by omega)).trans g1) (i.2.2.1.fr a2 (fun j => by omega) (fun j => by omega))
  have e1 : gi ν 37 = gi μ 37 := funext fun j => a2.2 _ _ (by omega)
  have e2 : gi ν 39 = gi μ 39 := funext fun j => a2.2 _ _ (by omega)
  have e3 : gi ν 27 0 = gi μ 27 0 := a2.2 _ _ (by omega)
  have e4 : gi ν 28 = gi μ 28 := funext fun j => a2.2 _ _ (by omega)
  have er : rdv ν n = rdv μ n := by
    funext s
    unfold rdv
    rw [e1, e2, e3]
  rw [er, e4] at b3
  obtain ⟨h, ms, w, e⟩ := fl_some (rdv μ n) (gi μ 28) (bc (rdv μ n) 6)
  rw [e] at a3 b3
  obtain ⟨p1, p2, p3⟩ := a3
  obtain ⟨q1, q2, q3, q4⟩ := b3
  exact ⟨ν, ν2, a1, sv, b1, sv.fr b2, i.sc ((a2.up (fun h k q => by omega)).tr (b2.up (fun h k q => by omega))), rdv μ n, bc (rdv μ n) 6, h, ms, w, p1, p2, q2, q3, fun k hk => ⟨p3 k hk, q4 k hk⟩⟩
theorem op_flanks {μ : Mem} (i : Inv μ) (what : Int32) : Opx (f_H_flanks 4 what) (f_M_flanks 27 what) μ := by
  have st := i.1
  have stA : ∀ h k x, ST (si μ h k x) := fun _ _ _ => st
  have stB : ∀ h k x h' k' x', ST (si (si μ h k x) h' k' x') := fun _ _ _ _ _ _ => st
  by_cases w : what = 0 ∨ what = 1
  · obtain ⟨ν, ν2, a1, sv, b1, s2, i2, rd, m, h, ms, x, p1, p2, q1, q2, -⟩ := FLK i
    rcases w with w | w
    · subst w
      refine ⟨h, ν, ν2, ?_, sv, ?_, i2⟩
      · unfold f_H_flanks b_H_flanks_16
        rw [if_pos rfl, e_cV4 st, a1, e_bV, if_pos rfl, e_gR4_9 sv, e_gI16 sv, p1]
      · unfold f_M_flanks
        rw [if_neg (by decide), if_pos (by decide), e_cV27 sv, b1, e_bV, if_pos rfl, e_gI27 s2, q1]
    · subst w
      refine ⟨ms, ν, ν2, ?_, sv, ?_, i2⟩
      · unfold f_H_flanks b_H_flanks_16
        rw [if_neg (by decide), if_pos rfl, e_cV4 st, a1, e_bV, if_neg (by decide), e_gR4_9 sv, e_gI16 sv, p2]
      · unfold f_M_flanks
        rw [if_neg (by decide), if_pos (by decide), e_cV27 sv, b1, e_bV, if_neg (by decide), e_gI27 s2, q2]
  · have w3 : ¬ what = 0 := fun q => w (Or.inl q)
    have w4 : ¬ what = 1 := fun q => w (Or.inr q)
    have w12 : what < 0 ∨ ¬ what ≤ 1 := by
      rw [i32_le, i32_lt]
      rw [i32_eq] at w3 w4
      simp at w3 w4 ⊢
      omega
    have hY : f_M_flanks 27 what = fun ν => b_M_flanks_9 27 ν := by
      funext ν
      unfold f_M_flanks
      by_cases c : what < 0
      · rw [if_pos c]
      · rw [if_neg c, if_neg (w12.resolve_left c)]
    rw [hY]
    exact Opx.ref (c := -2) i 2 (by decide) (by simp only [f_H_flanks, rf_2, w3, w4, e_nm, e_bI, e_bR, e_bV, e_gI4, e_pI4, e_cV4, e_gR4_0, e_gR4_1, e_gR4_2, e_gR4_3, e_gR4_4, e_gR4_5, e_gR4_6, e_gR4_7, e_gR4_8, e_gR4_9, e_gR4_10, e_gR4_11, e_aI5, e_aS5, e_aI6, e_aS6, e_gI7, e_pI7, e_cV7, e_gR7, e_gI8, e_pI8, e_cV8, e_gR8, e_gI9, e_pI9, e_cV9, e_gR9, e_gI10, e_pI10, e_cV10, e_gR10, e_gI11, e_pI11, e_cV11, e_gR11_0, e_aI12, e_aS12, e_gI13, e_pI13, e_cV13, e_gR13_0, e_aI14, e_aS14, e_gI15, e_pI15, e_cV15, e_gI16, e_pI16, e_cV16, e_gR16_0, e_gR16_3, e_gR16_4, e_gR16_5, e_gR16_6, e_aI17, e_aS17, e_aI18, e_aS18, e_aI19, e_aS19, e_zI20, e_zS20, e_aI21, e_aS21, e_gI22, e_pI22, e_cV22, e_gR22_0, e_gR22_1, e_gR22_3, e_aI23, e_aS23, e_aI24, e_aS24, e_aI25, e_aS25, e_aI26, e_aS26, e_gI27, e_pI27, e_cV27, e_gR27_7, e_gR27_8, e_gR27_9, e_gR27_10, e_gR27_11, e_gR27_12, e_gR27_13, e_gR27_14, e_gR27_15, e_gR27_16, e_gR27_17, e_gR27_18, e_gR27_19, e_gR27_20, e_gR27_21, e_gR27_22, e_gR27_23, e_gR27_24, e_gR27_25, e_gR27_26, e_gR27_27, e_gR27_28, e_gR27_29, e_gR27_30, e_gR27_31, e_gR27_32, e_gR27_33, e_gR27_34, e_gR27_35, e_gR27_36, e_gR27_37, e_aI28, e_aS28, e_aI29, e_aS29, e_aI30, e_aS30, e_aI31, e_aS31, e_aI32, e_aS32, e_aI33, e_aS33, e_aI34, e_aS34, e_aI35, e_aS35, e_aI36, e_aS36, e_aI37, e_aS37, e_aI38, e_aS38, e_aI39, e_aS39, e_aI40, e_aS40, e_aI41, e_aS41, e_aI42, e_aS42, e_aI43, e_aS43, e_aI44, e_aS44, e_aI45, e_aS45, e_aI46, e_aS46, e_aI47, e_aS47, e_aI48, e_aS48, e_aI49, e_aS49, e_aI50, e_aS50, e_aI51, e_aS51, e_aI52, e_aS52, e_aI53, e_aS53, e_aI54, e_aS54, e_aI55, e_aS55, e_aI56, e_aS56, e_aI57, e_aS57, e_aI58, e_aS58, st, stA, stB, inb, and_self, if_true, if_false, i32_00, i32_10, i32_m40, i32_m60]) (by simp only [b_M_flanks_9, no_2, e_nm, e_bI, e_bR, e_bV, e_gI4, e_pI4, e_cV4, e_gR4_0, e_gR4_1, e_gR4_2, e_gR4_3, e_gR4_4, e_gR4_5, e_gR4_6, e_gR4_7, e_gR4_8, e_gR4_9, e_gR4_10, e_gR4_11, e_aI5, e_aS5, e_aI6, e_aS6, e_gI7, e_pI7, e_cV7, e_gR7, e_gI8, e_pI8, e_cV8, e_gR8, e_gI9, e_pI9, e_cV9, e_gR9, e_gI10, e_pI10, e_cV10, e_gR10, e_gI11, e_pI11, e_cV11, e_gR11_0, e_aI12, e_aS12, e_gI13, e_pI13, e_cV13, e_gR13_0, e_aI14, e_aS14, e_gI15, e_pI15, e_cV15, e_gI16, e_pI16, e_cV16, e_gR16_0, e_gR16_3, e_gR16_4, e_gR16_5, e_gR16_6, e_aI17, e_aS17, e_aI18, e_aS18, e_aI19, e_aS19, e_zI20, e_zS20, e_aI21, e_aS21, e_gI22, e_pI22, e_cV22, e_gR22_0, e_gR22_1, e_gR22_3, e_aI23, e_aS23, e_aI24, e_aS24, e_aI25, e_aS25, e_aI26, e_aS26, e_gI27, e_pI27, e_cV27, e_gR27_7, e_gR27_8, e_gR27_9, e_gR27_10, e_gR27_11, e_gR27_12, e_gR27_13, e_gR27_14, e_gR27_15, e_gR27_16, e_gR27_17, e_gR27_18, e_gR27_19, e_gR27_20, e_gR27_21, e_gR27_22, e_gR27_23, e_gR27_24, e_gR27_25, e_gR27_26, e_gR27_27, e_gR27_28, e_gR27_29, e_gR27_30, e_gR27_31, e_gR27_32, e_gR27_33, e_gR27_34, e_gR27_35, e_gR27_36, e_gR27_37, e_aI28, e_aS28, e_aI29, e_aS29, e_aI30, e_aS30, e_aI31, e_aS31, e_aI32, e_aS32, e_aI33, e_aS33, e_aI34, e_aS34, e_aI35, e_aS35, e_aI36, e_aS36, e_aI37, e_aS37, e_aI38, e_aS38, e_aI39, e_aS39, e_aI40, e_aS40, e_aI41, e_aS41, e_aI42, e_aS42, e_aI43, e_aS43, e_aI44, e_aS44, e_aI45, e_aS45, e_aI46, e_aS46, e_aI47, e_aS47, e_aI48, e_aS48, e_aI49, e_aS49, e_aI50, e_aS50, e_aI51, e_aS51, e_aI52, e_aS52, e_aI53, e_aS53, e_aI54, e_aS54, e_aI55, e_aS55, e_aI56, e_aS56, e_aI57, e_aS57, e_aI58, e_aS58, st, stA, stB, inb, and_self, if_true, if_false, i32_00, i32_10, i32_m40, i32_m60])
theorem op_flank {μ : Mem} (i : Inv μ) (s : Int32) : Opx (f_H_flank 4 s) (f_M_flank 27 s) μ := by
  have st := i.1
  have stA : ∀ h k x, ST (si μ h k x) := fun _ _ _ => st
  have stB : ∀ h k x h' k' x', ST (si (si μ h k x) h' k' x') := fun _ _ _ _ _ _ => st
  by_cases h0 : s < 0 ∨ 6 ≤ s
  · exact Opx.ref (c := -1) i 1 (by decide) (by simp only [f_H_flank, rf_1, HisStation_f _ h0, e_nm, e_bI, e_bR, e_bV, e_gI4, e_pI4, e_cV4, e_gR4_0, e_gR4_1, e_gR4_2, e_gR4_3, e_gR4_4, e_gR4_5, e_gR4_6, e_gR4_7, e_gR4_8, e_gR4_9, e_gR4_10, e_gR4_11, e_aI5, e_aS5, e_aI6, e_aS6, e_gI7, e_pI7, e_cV7, e_gR7, e_gI8, e_pI8, e_cV8, e_gR8, e_gI9, e_pI9, e_cV9, e_gR9, e_gI10, e_pI10, e_cV10, e_gR10, e_gI11, e_pI11, e_cV11, e_gR11_0, e_aI12, e_aS12, e_gI13, e_pI13, e_cV13, e_gR13_0, e_aI14, e_aS14, e_gI15, e_pI15, e_cV15, e_gI16, e_pI16, e_cV16, e_gR16_0, e_gR16_3, e_gR16_4, e_gR16_5, e_gR16_6, e_aI17, e_aS17, e_aI18, e_aS18, e_aI19, e_aS19, e_zI20, e_zS20, e_aI21, e_aS21, e_gI22, e_pI22, e_cV22, e_gR22_0, e_gR22_1, e_gR22_3, e_aI23, e_aS23, e_aI24, e_aS24, e_aI25, e_aS25, e_aI26, e_aS26, e_gI27, e_pI27, e_cV27, e_gR27_7, e_gR27_8, e_gR27_9, e_gR27_10, e_gR27_11, e_gR27_12, e_gR27_13, e_gR27_14, e_gR27_15, e_gR27_16, e_gR27_17, e_gR27_18, e_gR27_19, e_gR27_20, e_gR27_21, e_gR27_22, e_gR27_23, e_gR27_24, e_gR27_25, e_gR27_26, e_gR27_27, e_gR27_28, e_gR27_29, e_gR27_30, e_gR27_31, e_gR27_32, e_gR27_33, e_gR27_34, e_gR27_35, e_gR27_36, e_gR27_37, e_aI28, e_aS28, e_aI29, e_aS29, e_aI30, e_aS30, e_aI31, e_aS31, e_aI32, e_aS32, e_aI33, e_aS33, e_aI34, e_aS34, e_aI35, e_aS35, e_aI36, e_aS36, e_aI37, e_aS37, e_aI38, e_aS38, e_aI39, e_aS39, e_aI40, e_aS40, e_aI41, e_aS41, e_aI42, e_aS42, e_aI43, e_aS43, e_aI44, e_aS44, e_aI45, e_aS45, e_aI46, e_aS46, e_aI47, e_aS47, e_aI48, e_aS48, e_aI49, e_aS49, e_aI50, e_aS50, e_aI51, e_aS51, e_aI52, e_aS52, e_aI53, e_aS53, e_aI54, e_aS54, e_aI55, e_aS55, e_aI56, e_aS56, e_aI57, e_aS57, e_aI58, e_aS58, st, stA, stB, inb, and_self, if_true, if_false, i32_00, i32_10, i32_m40, i32_m60]) (by simp only [f_M_flank, no_1, MisStation_f _ h0, e_nm, e_bI, e_bR, e_bV, e_gI4, e_pI4, e_cV4, e_gR4_0, e_gR4_1, e_gR4_2, e_gR4_3, e_gR4_4, e_gR4_5, e_gR4_6, e_gR4_7, e_gR4_8, e_gR4_9, e_gR4_10, e_gR4_11, e_aI5, e_aS5, e_aI6, e_aS6, e_gI7, e_pI7, e_cV7, e_gR7, e_gI8, e_pI8, e_cV8, e_gR8, e_gI9, e_pI9, e_cV9, e_gR9, e_gI10, e_pI10, e_cV10, e_gR10, e_gI11, e_pI11, e_cV11, e_gR11_0, e_aI12, e_aS12, e_gI13, e_pI13, e_cV13, e_gR13_0, e_aI14, e_aS14, e_gI15, e_pI15, e_cV15, e_gI16, e_pI16, e_cV16, e_gR16_0, e_gR16_3, e_gR16_4, e_gR16_5, e_gR16_6, e_aI17, e_aS17, e_aI18, e_aS18, e_aI19, e_aS19, e_zI20, e_zS20, e_aI21, e_aS21, e_gI22, e_pI22, e_cV22, e_gR22_0, e_gR22_1, e_gR22_3, e_aI23, e_aS23, e_aI24, e_aS24, e_aI25, e_aS25, e_aI26, e_aS26, e_gI27, e_pI27, e_cV27, e_gR27_7, e_gR27_8, e_gR27_9, e_gR27_10, e_gR27_11, e_gR27_12, e_gR27_13, e_gR27_14, e_gR27_15, e_gR27_16, e_gR27_17, e_gR27_18, e_gR27_19, e_gR27_20, e_gR27_21, e_gR27_22, e_gR27_23, e_gR27_24, e_gR27_25, e_gR27_26, e_gR27_27, e_gR27_28, e_gR27_29, e_gR27_30, e_gR27_31, e_gR27_32, e_gR27_33, e_gR27_34, e_gR27_35, e_gR27_36, e_gR27_37, e_aI28, e_aS28, e_aI29, e_aS29, e_aI30, e_aS30, e_aI31, e_aS31, e_aI32, e_aS32, e_aI33, e_aS33, e_aI34, e_aS34, e_aI35, e_aS35, e_aI36, e_aS36, e_aI37, e_aS37, e_aI38, e_aS38, e_aI39, e_aS39, e_aI40, e_aS40, e_aI41, e_aS41, e_aI42, e_aS42, e_aI43, e_aS43, e_aI44, e_aS44, e_aI45, e_aS45, e_aI46, e_aS46, e_aI47, e_aS47, e_aI48, e_aS48, e_aI49, e_aS49, e_aI50, e_aS50, e_aI51, e_aS51, e_aI52, e_aS52, e_aI53, e_aS53, e_aI54, e_aS54, e_aI55, e_aS55, e_aI56, e_aS56, e_aI57, e_aS57, e_aI58, e_aS58, st, stA, stB, inb, and_self, if_true, if_false, i32_00, i32_10, i32_m40, i32_m60])
  have s1 : ¬ s < 0 := fun q => h0 (Or.inl q)
  have s2 : ¬ 6 ≤ s := fun q => h0 (Or.inr q)
  obtain ⟨k, hk, rfl⟩ := of_rng (n := 6) s1 (by rw [i32_le] at s2; simp at s2; omega)
  obtain ⟨ν, ν2, a1, sv, b1, t2, i2, rd, m, h, ms, x, -, -, -, -, p⟩ := FLK i
  have ik : inb (nI k) 6 := inb_nI hk (by omega)
  have fh := (p k hk).1
  have fm := (p k hk).2
  refine ⟨frv rd m x k, ν, ν2, ?_, sv, ?_, i2⟩
  · unfold f_H_flank
    rw [HisStation_t _ s1 s2, e_bI, if_neg (by decide), e_cV4 st, a1, e_bV, e_gR4_9 sv, e_gR16_0 sv, e_aI17 sv ik, cl_nI (by omega), fh]
  · unfold f_M_flank
    rw [MisStation_t _ s1 s2, e_bI, if_neg (by decide), e_cV27 sv, b1, e_bV, e_gR27_37 t2, e_aI58 t2 ik, cl_nI (by omega), fm]
    unfold frv
    by_cases r : rd k = 0
    · rw [if_pos r, if_pos r]
      have d7 : dgt rd m x k < 7 := Nat.mod_lt _ (by decide)
      by_cases d : dgt rd m x k = 6
      · rw [if_pos d, d, if_pos (by decide)]
      · rw [if_neg d, if_neg (show ¬ nI (dgt rd m x k) = 6 from fun q => d (nI_inj (b := 6) (by omega) (by omega) q)), e_gR27_37 t2, e_aI58 t2 ik, cl_nI (by omega), fm, if_pos r]
    · rw [if_neg r, if_neg r, if_pos rfl]
