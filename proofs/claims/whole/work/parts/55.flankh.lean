/-! the flanks, as the house finds them -/
abbrev SF (h k : Nat) : Prop := (16 ≤ h ∧ h ≤ 21) ∨ (55 ≤ h ∧ h ≤ 58) ∨ (h = 27 ∧ 38 ≤ k)
abbrev SK (h _k : Nat) : Prop := h = 17 ∨ h = 16
def rdv (μ : Mem) (n s : Nat) : Int32 := rdc (gi μ 37) (gi μ 39) (gi μ 27 0) (nI s) n
/-- the best plan so far, in the house's cells -/
def BH (rd : Nat → Int32) (m : Nat) (b : Option B3) (ν : Mem) : Prop := match b with
  | none => gi ν 16 1 = -1 ∧ gi ν 16 2 = 0
  | some (h, ms, w) => gi ν 16 1 = h ∧ gi ν 16 2 = ms ∧ ∀ k, k < 6 → gi ν 17 k = frv rd m w k
def CH (μ : Mem) (rd ml : Nat → Int32) (t j w : Nat) (s : St) (b : Option B3) (ν : Mem) : Prop :=
  Fr SF μ ν ∧ (∀ k, k < 6 → gi ν 18 k = ml k) ∧ (∀ k, k < 6 → gi ν 20 k = if rd k = 0 then 1 else 0) ∧ (∀ k, k < 6 → gi ν 19 k = s.1 k) ∧ (∀ k, k < t → gi ν 21 k = frv rd j w k) ∧ BH rd (bc rd 6) b ν
theorem BH.ne {rd : Nat → Int32} {m : Nat} {b : Option B3} {ν : Mem} {h k : Nat} {x : Int32} (hn : 18 ≤ h) (a : BH rd m b ν) : BH rd m b (si ν h k x) := by
  match b, a with
  | none, a => exact ⟨(gi_ne (by omega)).trans a.1, (gi_ne (by omega)).trans a.2⟩
  | some (h0, m0, w0), a => exact ⟨(gi_ne (by omega)).trans a.1, (gi_ne (by omega)).trans a.2.1, fun k hk => (gi_ne (by omega)).trans (a.2.2 k hk)⟩
theorem F_keep {ν : Mem} (st : ST ν) (rd : Nat → Int32) (m w : Nat) (b : Option B3) (hh ms : Int32) (h0 : 0 ≤ hh.toInt) (a : BH rd m b ν) (fr : ∀ k, k < 6 → gi ν 21 k = frv rd m w k) : ∃ ν', f_F_keepIfBetter 16 hh ms ν = some (.inl 0, ν') ∧ Fr SK ν ν' ∧ BH rd m (btr b hh ms w) ν' := by
  have take : ∃ ν', b_F_keepIfBetter_25 16 hh ms ν = some (.inl 0, ν') ∧ Fr SK ν ν' ∧ BH rd m (some (hh, ms, w)) ν' := by
    have sA : ∀ a b x, ST (si ν a b x) := fun _ _ _ => st
    have sB : ∀ a b x a1 b1 x1, ST (si (si ν a b x) a1 b1 x1) := fun _ _ _ _ _ _ => st
    refine ⟨mcI (si (si ν 16 1 hh) 16 2 ms) 21 0 17 0 6, ?_, ?_, ?_, ?_, ?_⟩
    · unfold b_F_keepIfBetter_25
      rw [e_pI16 st, e_pI16 (sA _ _ _), e_gR16_6 (sB _ _ _ _ _ _), e_gR16_0 (sB _ _ _ _ _ _)]
      unfold cpI
      rw [st_h21 (sB _ _ _ _ _ _), st_h17 (sB _ _ _ _ _ _), if_pos (by decide)]
      rfl
    · exact (Fr.si (S := SK) (Or.inr rfl)).tr ((Fr.si (S := SK) (Or.inr rfl)).tr (Fr.mcI (S := SK) (fun k => Or.inl rfl)))
    · rw [gi_mcI, if_neg (by decide), gi_ne (by decide), gi_eq]
    · rw [gi_mcI, if_neg (by decide), gi_eq]
    · intro k hk
      rw [gi_mcI, if_pos rfl]
      unfold va_cpy
      rw [if_pos (by omega), show 0 + (k - 0) = k by omega, gi_ne (by omega), gi_ne (by omega)]
      exact fr k hk
  unfold f_F_keepIfBetter
  rw [e_gI16 st]
  match b, a with
  | none, a =>
    have e1 : gi ν 16 1 = -1 := a.1
    rw [e1, if_neg (show ¬ hh < -1 by rw [i32_lt]; simp; omega), e_gI16 st, e1, if_neg (show ¬ hh = -1 by rw [i32_eq]; simp; omega)]
    exact take
  | some (h1, m1, w1), a =>
    have e1 : gi ν 16 1 = h1 := a.1
    have e2 : gi ν 16 2 = m1 := a.2.1
    show ∃ ν', _ ∧ _ ∧ BH rd m (if hh < h1 then some (h1, m1, w1) else if hh = h1 then (if ms < m1 then some (hh, ms, w) else some (h1, m1, w1)) else some (hh, ms, w)) ν'
    rw [e1]
    by_cases c : hh < h1
    · rw [if_pos c, if_pos c]
      exact ⟨ν, rfl, Fr.rf, a⟩
    · rw [if_neg c, if_neg c, e_gI16 st, e1]
      by_cases d : hh = h1
      · rw [if_pos d, if_pos d, e_gI16 st, e2]
        by_cases e : ms < m1
        · rw [if_pos e, if_pos e]
          exact take
        · rw [if_neg e, if_neg e]
          exact ⟨ν, rfl, Fr.rf, a⟩
      · rw [if_neg d, if_neg d]
        exact take
/-- what is owed of a call of tryFrom at station t -/
def RC (μ : Mem) (rd ml : Nat → Int32) (rc : Nat → Int32 → Int32 → Int32 → Mem → Option (LV × Mem)) (t : Nat) : Prop := ∀ w s ν, CK rd ml (bc rd t) w = some s → CH μ rd ml t (bc rd t) w s (fl rd ml (bc rd 6) (w * 7 ^ (bc rd 6 - bc rd t))) ν → ∃ ν', rc 16 (nI t) s.2.1 s.2.2 ν = some (.inl 0, ν') ∧ CH μ rd ml t (bc rd t) w s (fl rd ml (bc rd 6) ((w + 1) * 7 ^ (bc rd 6 - bc rd t))) ν'
theorem F_none {μ : Mem} (sT : ST μ) {rd ml : Nat → Int32} {rc : Nat → Int32 → Int32 → Int32 → Mem → Option (LV × Mem)} {t w : Nat} {s : St} {ν : Mem} (t6 : t < 6) (ih : RC μ rd ml rc (t + 1)) (ck : CK rd ml (bc rd (t + 1)) w = some s) (h9 : frv rd (bc rd (t + 1)) w t = -9) (ch : CH μ rd ml t (bc rd (t + 1)) w s (fl rd ml (bc rd 6) (w * 7 ^ (bc rd 6 - bc rd (t + 1)))) ν) : ∃ ν', b_F_tryFrom_122 rc 16 (nI t) s.2.1 s.2.2 ν = some (.inl 0, ν') ∧ CH μ rd ml (t + 1) (bc rd (t + 1)) w s (fl rd ml (bc rd 6) ((w + 1) * 7 ^ (bc rd 6 - bc rd (t + 1)))) ν' := by
  obtain ⟨c1, c2, c3, c4, c5, c6⟩ := ch
  have st := sT.fr c1
  obtain ⟨ν', a1, a2⟩ := ih w s (si ν 21 t (-9)) ck ⟨c1.tr (Fr.si (S := SF) (by omega)), fun k hk => (gi_ne (by omega)).trans (c2 k hk), fun k hk => (gi_ne (by omega)).trans (c3 k hk), fun k hk => (gi_ne (by omega)).trans (c4 k hk), fun k hk => by
      by_cases e : k = t
      · rw [e, gi_eq, h9]
      · rw [gi_ne (by omega)]
        exact c5 k (by omega), c6.ne (by omega)⟩
  refine ⟨ν', ?_, a2⟩
  unfold b_F_tryFrom_122
  rw [e_gR16_6 st, e_aS21 st (inb_nI t6 (by omega)), cl_nI (by omega), nI_1, a1, e_bV]
theorem F_loop {μ : Mem} (sT : ST μ) {rd ml : Nat → Int32} {rc : Nat → Int32 → Int32 → Int32 → Mem → Option (LV × Mem)} {t w : Nat} {s : St} (t6 : t < 6) (r : rd t = 0) (ih : RC μ rd ml rc (t + 1)) (ck : CK rd ml (bc rd t) w = some s) : ∀ f d ν, d ≤ 6 → 6 - d < f → CH μ rd ml t (bc rd t) w s (fl rd ml (bc rd 6) ((w * 7 + d) * 7 ^ (bc rd 6 - bc rd (t + 1)))) ν → ∃ ν', k_F_tryFrom_16 rc (fun b0 b1 b2 b3 m_ => b_F_tryFrom_122 rc b0 b1 b2 b3 m_) 16 (nI t) s.2.1 s.2.2 f (nI d) ν = some (.inl 0, ν') ∧ CH μ rd ml t (bc rd t) w s (fl rd ml (bc rd 6) ((w * 7 + 7) * 7 ^ (bc rd 6 - bc rd (t + 1)))) ν'
  | 0, d, ν, _, h, _ => by omega
  | f + 1, d, ν, hd, h, ch => by
    have hj : bc rd (t + 1) = bc rd t + 1 := by rw [bc_s, if_pos r]
    have hb : bsn rd (bc rd t) = t := bsn_at rd t6 r
    obtain ⟨c1, c2, c3, c4, c5, c6⟩ := ch
    have st := sT.fr c1
    have sA : ∀ a b x, ST (si ν a b x) := fun _ _ _ => st
    have it : inb (nI t) 6 := inb_nI t6 (by omega)
    have e1 : (w * 7 + d) / 7 = w := by omega
    have e2 : (w * 7 + d) % 7 = d := by omega
    have ckn : CK rd ml (bc rd (t + 1)) (w * 7 + d) = sp2 ml t d s := by
      rw [hj, CK_s, e1, ck, e2, hb]
    simp only [k_F_tryFrom_16]
    rw [e_gR16_5 st, e_zI20 st it, cl_nI (by omega), c3 t t6, if_pos r, if_neg (by decide)]
    by_cases q : d = 6
    · subst q
      rw [if_pos (by decide)]
      obtain ⟨ν', a1, g1, g2, g3, g4, g5, g6⟩ := F_none sT t6 ih (s := s) (w := w * 7 + 6) (ν := ν) (by rw [ckn]; unfold sp2; rw [if_pos rfl]) (by rw [hj, frv_at rd (w := w) (d := 6) (by omega) r rfl, if_pos rfl]) ⟨c1, c2, c3, c4, fun k hk => by rw [hj, frv_up rd (w := w) (d := 6) (by omega) hk rfl]; exact c5 k hk, c6⟩
      exact ⟨ν', a1, g1, g2, g3, g4, fun k hk => by rw [g5 k (by omega), hj, frv_up rd (w := w) (d := 6) (by omega) hk rfl], g6⟩
    · have d6 : d < 6 := by omega
      have idd : inb (nI d) 6 := inb_nI d6 (by omega)
      have skip : sp2 ml t d s = none → ∃ ν', b_F_tryFrom_116 rc (k_F_tryFrom_16 rc (fun b0 b1 b2 b3 m_ => b_F_tryFrom_122 rc b0 b1 b2 b3 m_) 16 (nI t) s.2.1 s.2.2 f) 16 (nI t) s.2.1 s.2.2 (nI d) ν = some (.inl 0, ν') ∧ CH μ rd ml t (bc rd t) w s (fl rd ml (bc rd 6) ((w * 7 + 7) * 7 ^ (bc rd 6 - bc rd (t + 1)))) ν' := by
        intro hn
        unfold b_F_tryFrom_116
        rw [nI_1]
        refine F_loop sT t6 r ih ck f (d + 1) ν (by omega) (by omega) ⟨c1, c2, c3, c4, c5, ?_⟩
        have := fl_skip rd ml (j := bc rd (t + 1)) (m := bc rd 6) (x := w * 7 + d) (bc_le rd t6) (by rw [ckn]; exact hn)
        rw [← Nat.add_assoc, this]
        exact c6
      rw [if_neg (show ¬ (6 : Int32) ≤ nI d from nI_ge (b := 6) d6 (by omega)), e_gR16_3 st, e_aI18 st idd, cl_nI (by omega), c2 d d6, e_gR16_3 st, e_aI18 st it, cl_nI (by omega), c2 t t6, MA_ab, e_bI, e_gR16_4 st, e_aI19 st idd, cl_nI (by omega), c4 d d6]
      by_cases v1 : s.1 d < 1
      · rw [if_pos v1]
        exact skip (by unfold sp2; rw [if_neg q, if_pos v1])
      · rw [if_neg v1]
        by_cases v2 : ab (ml d - ml t) ≤ 80
        · rw [if_pos v2, e_gR16_4 st, e_aI19 st idd, cl_nI (by omega), c4 d d6, e_aS19 st idd, cl_nI (by omega), e_gR16_6 (sA _ _ _), e_aS21 (sA _ _ _) it, cl_nI (by omega)]
          have cks : CK rd ml (bc rd (t + 1)) (w * 7 + d) = some (fun k => if k = d then s.1 d - 1 else s.1 k, s.2.1 + 1, s.2.2 + ab (ml d - ml t)) := by
            rw [ckn]
            unfold sp2
            rw [if_neg q, if_neg v1, if_pos v2]
          obtain ⟨ν', a1, g1, g2, g3, g4, g5, g6⟩ := ih (w * 7 + d) _ (si (si ν 19 d (s.1 d - 1)) 21 t (nI d)) cks ⟨c1.tr ((Fr.si (S := SF) (by omega)).tr (Fr.si (S := SF) (by omega))), fun k hk => (gi_ne (by omega)).trans ((gi_ne (by omega)).trans (c2 k hk)), fun k hk => (gi_ne (by omega)).trans ((gi_ne (by omega)).trans (c3 k hk)), fun k hk => by
              rw [gi_ne (by omega)]
              by_cases e : k = d
              · rw [e, gi_eq]
                exact (if_pos rfl).symm
              · rw [gi_ne (by omega), c4 k hk]
                exact (if_neg e).symm, fun k hk => by
              by_cases e : k = t
              · rw [e, gi_eq, hj, frv_at rd (w := w) (d := d) (by omega) r rfl, if_neg q]
              · rw [gi_ne (by omega), gi_ne (by omega), hj, frv_up rd (w := w) (d := d) (t := t) (by omega) (by omega) rfl]
                exact c5 k (by omega), (c6.ne (by omega)).ne (by omega)⟩
          have sv := sT.fr g1
          have a1' : rc 16 (nI (t + 1)) (s.2.1 + 1) (s.2.2 + ab (ml d - ml t)) (si (si ν 19 d (s.1 d - 1)) 21 t (nI d)) = some (.inl 0, ν') := a1
          have g4d : gi ν' 19 d = s.1 d - 1 := (g4 d d6).trans (if_pos rfl)
          rw [nI_1 t, a1', e_bV, e_gR16_4 sv, e_aI19 sv idd, cl_nI (by omega), g4d, e_aS19 sv idd, cl_nI (by omega), Int32.sub_add_cancel]
          unfold b_F_tryFrom_116
          rw [nI_1]
          refine F_loop sT t6 r ih ck f (d + 1) (si ν' 19 d (s.1 d)) (by omega) (by omega) ⟨g1.tr (Fr.si (S := SF) (by omega)), fun k hk => (gi_ne (by omega)).trans (g2 k hk), fun k hk => (gi_ne (by omega)).trans (g3 k hk), fun k hk => ?_, fun k hk => ?_, ?_⟩
          · by_cases e : k = d
            · rw [e, gi_eq]
            · rw [gi_ne (by omega), g4 k hk]
              exact if_neg e
          · rw [gi_ne (by omega), g5 k (by omega), hj, frv_up rd (w := w) (d := d) (by omega) hk rfl]
          · exact g6.ne (by omega)
        · rw [if_neg v2]
          exact skip (by unfold sp2; rw [if_neg q, if_neg v1, if_neg v2])
theorem k16_nb {ν : Mem} (st : ST ν) {rc c122 : Nat → Int32 → Int32 → Int32 → Mem → Option (LV × Mem)} {t : Nat} (t6 : t < 6) (z : gi ν 20 t = 0) {a2 a3 d : Int32} {f : Nat} (hf : 0 < f) : k_F_tryFrom_16 rc c122 16 (nI t) a2 a3 f d ν = c122 16 (nI t) a2 a3 ν := by
  obtain ⟨g, rfl⟩ : ∃ g, f = g + 1 := ⟨f - 1, by omega⟩
  simp only [k_F_tryFrom_16]
  rw [e_gR16_5 st, e_zI20 st (inb_nI t6 (by omega)), cl_nI (by omega), z, if_pos rfl]
theorem F_try {μ : Mem} (sT : ST μ) (rd ml : Nat → Int32) : ∀ nn t, t ≤ 6 → 6 - t < nn → RC μ rd ml (f_F_tryFrom nn) t
  | 0, t, _, h => by omega
  | nn + 1, t, ht, h => by
    intro w s ν ck ch
    simp only [f_F_tryFrom]
    by_cases q : t = 6
    · subst q
      obtain ⟨c1, c2, c3, c4, c5, c6⟩ := ch
      have st := sT.fr c1
      rw [Nat.sub_self, Nat.pow_zero, Nat.mul_one] at c6
      rw [Nat.sub_self, Nat.pow_zero, Nat.mul_one, fl_s, ck]
      obtain ⟨ν', a1, a2, a3⟩ := F_keep st rd (bc rd 6) w _ s.2.1 s.2.2 (CK_h rd ml ck (bc_n rd 6)).1 c6 c5
      rw [if_neg (by decide), e_cV16 st, a1, e_bV]
      exact ⟨ν', rfl, c1.tr (a2.up (fun h k q => by omega)), fun k hk => (a2.2 18 k (by omega)).trans (c2 k hk), fun k hk => (a2.2 20 k (by omega)).trans (c3 k hk), fun k hk => (a2.2 19 k (by omega)).trans (c4 k hk), fun k hk => (a2.2 21 k (by omega)).trans (c5 k hk), a3⟩
    · have t6 : t < 6 := by omega
      have ih := F_try sT rd ml nn (t + 1) (by omega) (by omega)
      rw [if_pos (show nI t < (6 : Int32) from nI_lt (b := 6) t6 (by omega))]
      by_cases r : rd t = 0
      · have hj : bc rd (t + 1) = bc rd t + 1 := by rw [bc_s, if_pos r]
        have le := bc_le rd (t := t + 1) (u := 6) t6
        have ep : ∀ x, x * 7 ^ (bc rd 6 - bc rd t) = (x * 7) * 7 ^ (bc rd 6 - bc rd (t + 1)) := fun x => by
          rw [show bc rd 6 - bc rd t = (bc rd 6 - bc rd (t + 1)) + 1 by omega, Nat.pow_succ, Nat.mul_assoc, Nat.mul_comm 7]
        rw [ep w] at ch
        obtain ⟨ν', a1, a2⟩ := F_loop sT t6 r ih ck 120000 0 ν (by omega) (by omega) ch
        refine ⟨ν', a1, ?_⟩
        rw [ep (w + 1), Nat.add_mul]
        exact a2
      · have bt : bc rd (t + 1) = bc rd t := by rw [bc_s, if_neg r]
        obtain ⟨ν', a1, a2⟩ := F_none sT t6 ih (w := w) (s := s) (ν := ν) (by rw [bt]; exact ck) (by unfold frv; rw [if_neg r]) (by rw [bt]; exact ch)
        rw [bt] at a2
        obtain ⟨g1, g2, g3, g4, g5, g6⟩ := a2
        rw [k16_nb (sT.fr ch.1) t6 (by rw [ch.2.2.1 t t6, if_neg r]) (by omega)]
        exact ⟨ν', a1, g1, g2, g3, g4, fun k hk => g5 k (by omega), g6⟩
theorem F_find_v {μ ν : Mem} (sT : ST μ) (rd ml : Nat → Int32) (c1 : Fr SF μ ν) (c2 : ∀ k, k < 6 → gi ν 18 k = ml k) (c3 : ∀ k, k < 6 → gi ν 20 k = if rd k = 0 then 1 else 0) (c4 : ∀ k, k < 6 → gi ν 19 k = mx 0 (rd k - 1)) : ∃ ν', f_F_find 16 ν = some (.inl 0, ν') ∧ Fr SF μ ν' ∧ BH rd (bc rd 6) (fl rd ml (bc rd 6) (7 ^ bc rd 6)) ν' := by
  have st := sT.fr c1
  have sA : ∀ a b x, ST (si ν a b x) := fun _ _ _ => st
  obtain ⟨ν', a1, g1, g2, g3, g4, g5, g6⟩ := F_try sT rd ml 8 0 (by omega) (by omega) 0 (st0 rd) (si (si ν 16 1 (-1)) 16 2 0) rfl ⟨c1.tr ((Fr.si (S := SF) (by omega)).tr (Fr.si (S := SF) (by omega))), fun k hk => (gi_ne (by omega)).trans ((gi_ne (by omega)).trans (c2 k hk)), fun k hk => (gi_ne (by omega)).trans ((gi_ne (by omega)).trans (c3 k hk)), fun k hk => (gi_ne (by omega)).trans ((gi_ne (by omega)).trans (c4 k hk)), fun k hk => by omega, by
    rw [Nat.zero_mul]
    exact ⟨by rw [gi_ne (by omega), gi_eq], gi_eq _ _ _ _⟩⟩
  rw [Nat.zero_add, Nat.one_mul, show bc rd 6 - bc rd 0 = bc rd 6 from Nat.sub_zero _] at g6
  refine ⟨ν', ?_, g1, g6⟩
  unfold f_F_find
  rw [e_pI16 st, e_pI16 (sA _ _ _), show f_F_tryFrom 8 16 0 0 0 (si (si ν 16 1 (-1)) 16 2 0) = _ from a1, e_bV]
theorem F_tell {ν : Mem} (st : ST ν) {k : Nat} (k6 : k < 6) (x r : Int32) : f_F_tellReady 16 (nI k) x r ν = some (.inl 0, si (si (si ν 18 k x) 19 k (mx 0 (r - 1))) 20 k (if r = 0 then 1 else 0)) := by
  have ik : inb (nI k) 6 := inb_nI k6 (by omega)
  have sA : ∀ a b x, ST (si ν a b x) := fun _ _ _ => st
  have sB : ∀ a b x a1 b1 x1, ST (si (si ν a b x) a1 b1 x1) := fun _ _ _ _ _ _ => st
  unfold f_F_tellReady
  rw [e_gR16_3 st, e_aS18 st ik, cl_nI (by omega), e_gR16_4 (sA _ _ _), MA_mx, e_bI, e_aS19 (sA _ _ _) ik, cl_nI (by omega), e_gR16_5 (sB _ _ _ _ _ _)]
  by_cases c : r = 0
  · rw [if_pos c, if_pos c, e_zS20 (sB _ _ _ _ _ _) ik, cl_nI (by omega)]
    rfl
  · rw [if_neg c, if_neg c, e_zS20 (sB _ _ _ _ _ _) ik, cl_nI (by omega)]
    rfl
theorem H_rdy {μ ν : Mem} (sT : ST μ) {B : Nat → Nat} {n : Nat} (hn : n ≤ 8) (h2 : LST 8 B n μ) (h3 : ∀ b, b < n → BOA B b μ) (em : gi μ 4 12 = gi μ 27 0) (fr : Fr SF μ ν) (k : Nat) : f_H_boatsReadyAt 4 (nI k) ν = some (.inl (rdv μ n k), ν) := by
  have e1 : gi ν 37 = gi μ 37 := funext fun j => fr.2 _ _ (by omega)
  have e2 : gi ν 39 = gi μ 39 := funext fun j => fr.2 _ _ (by omega)
  have e3 : gi ν 27 0 = gi μ 27 0 := fr.2 _ _ (by omega)
  have x := H_ready (sT.fr fr) hn (h2.fr fr (by omega)) (fun b hb => (h3 b hb).fr fr (fun h j g1 g2 => by omega) (fun h j g1 _ => by omega)) (by rw [e3, fr.2 4 12 (by omega)]; exact em) (nI k)
  rw [e1, e2, e3] at x
  exact x
theorem M_stn {μ ν : Mem} (sT : ST μ) {n : Nat} (hn : n ≤ 8) (h1 : gi μ 27 2 = nI n) (fr : Fr SF μ ν) (k : Nat) : f_M_standing 27 (nI k) ν = some (.inl (rdv μ n k), ν) := by
  have e1 : gi ν 37 = gi μ 37 := funext fun j => fr.2 _ _ (by omega)
  have e2 : gi ν 39 = gi μ 39 := funext fun j => fr.2 _ _ (by omega)
  have e3 : gi ν 27 0 = gi μ 27 0 := fr.2 _ _ (by omega)
  have x := M_standing (sT.fr fr) hn ((fr.2 27 2 (by omega)).trans h1) (nI k)
  rw [e1, e2, e3] at x
  exact x
theorem H_plan_loop {μ : Mem} (sT : ST μ) {B : Nat → Nat} {n : Nat} (hn : n ≤ 8) (h2 : LST 8 B n μ) (h3 : ∀ b, b < n → BOA B b μ) (em : gi μ 4 12 = gi μ 27 0) (mi : I_miles μ) (K : Nat → Mem → Option (LV × Mem)) : ∀ f k ν, k ≤ 6 → 6 - k < f → Fr SF μ ν → (∀ j, j < k → gi ν 18 j = gi μ 28 j ∧ gi ν 19 j = mx 0 (rdv μ n j - 1) ∧ gi ν 20 j = if rdv μ n j = 0 then 1 else 0) → ∃ ν', k_H_planFlanks_2 K 4 f (nI k) ν = K 4 ν' ∧ Fr SF μ ν' ∧ ∀ j, j < 6 → gi ν' 18 j = gi μ 28 j ∧ gi ν' 19 j = mx 0 (rdv μ n j - 1) ∧ gi ν' 20 j = if rdv μ n j = 0 then 1 else 0
  | 0, k, ν, _, h, _, _ => by omega
  | f + 1, k, ν, hk, h, fr, inv => by
    have st := sT.fr fr
    simp only [k_H_planFlanks_2]
    by_cases q : k = 6
    · subst q
      rw [if_pos (by decide)]
      exact ⟨ν, rfl, fr, inv⟩
    · have k6 : k < 6 := by omega
      have ik : inb (nI k) 6 := inb_nI k6 (by omega)
      rw [if_neg (show ¬ (6 : Int32) ≤ nI k from nI_ge (b := 6) k6 (by omega)), e_gR4_9 st, e_gR4_0 st, e_aI5 st ik, cl_nI (by omega), fr.2 5 k (by omega), (mi k k6).1, e_cV4 st, H_rdy sT hn h2 h3 em fr, e_bI, e_cV16 st, F_tell st k6, e_bV, nI_1]
      refine H_plan_loop sT hn h2 h3 em mi K f (k + 1) _ (by omega) (by omega) (fr.tr ((Fr.si (S := SF) (by omega)).tr ((Fr.si (S := SF) (by omega)).tr (Fr.si (S := SF) (by omega))))) (fun j hj => ?_)
      by_cases e : j = k
      · rw [e]
        exact ⟨by rw [gi_ne (by omega), gi_ne (by omega), gi_eq], by rw [gi_ne (by omega), gi_eq], gi_eq _ _ _ _⟩
      · rw [gi_ne (by omega), gi_ne (by omega), gi_ne (by omega), gi_ne (by omega), gi_ne (by omega), gi_ne (by omega), gi_ne (by omega), gi_ne (by omega), gi_ne (by omega)]
        exact inv j (by omega)
theorem H_plan {μ : Mem} (sT : ST μ) {B : Nat → Nat} {n : Nat} (hn : n ≤ 8) (h2 : LST 8 B n μ) (h3 : ∀ b, b < n → BOA B b μ) (em : gi μ 4 12 = gi μ 27 0) (mi : I_miles μ) : ∃ ν, f_H_planFlanks 4 μ = some (.inl 0, ν) ∧ Fr SF μ ν ∧ BH (rdv μ n) (bc (rdv μ n) 6) (fl (rdv μ n) (gi μ 28) (bc (rdv μ n) 6) (7 ^ bc (rdv μ n) 6)) ν := by
  obtain ⟨ν1, a1, a2, a3⟩ := H_plan_loop sT hn h2 h3 em mi (fun b0 m_ => b_H_planFlanks_33 b0 m_) 120000 0 μ (by omega) (by omega) Fr.rf (fun j hj => by omega)
  have s1 := sT.fr a2
  obtain ⟨ν2, b1, b2, b3⟩ := F_find_v sT (rdv μ n) (gi μ 28) a2 (fun k hk => (a3 k hk).1) (fun k hk => (a3 k hk).2.2) (fun k hk => (a3 k hk).2.1)
  refine ⟨ν2, ?_, b2, b3⟩
  unfold f_H_planFlanks
  refine Eq.trans a1 ?_
  show b_H_planFlanks_33 4 ν1 = _
  unfold b_H_planFlanks_33
  rw [e_gR4_9 s1, e_cV16 s1, b1, e_bV]
