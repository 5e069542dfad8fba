/-! the plans of the flanks -/
/-- spare boats, helped, miles -/
abbrev St := (Nat → Int32) × Int32 × Int32
abbrev B3 := Int32 × Int32 × Nat
section PL
variable (rd ml : Nat → Int32)
def bc : Nat → Nat
  | 0 => 0
  | t + 1 => if rd t = 0 then bc t + 1 else bc t
def bsv' : Nat → Nat → Nat
  | 0, _ => 0
  | t + 1, j => if rd t = 0 ∧ bc rd t = j then t else bsv' t j
def bsn (j : Nat) : Nat := bsv' rd 6 j
def st0 : St := (fun s => mx 0 (rd s - 1), 0, 0)
def sp2 (b d : Nat) (s : St) : Option St := if d = 6 then some s else if s.1 d < 1 then none else if ab (ml d - ml b) ≤ 80 then some (fun k => if k = d then s.1 d - 1 else s.1 k, s.2.1 + 1, s.2.2 + ab (ml d - ml b)) else none
def CK : Nat → Nat → Option St
  | 0, _ => some (st0 rd)
  | j + 1, w => match CK j (w / 7) with
    | none => none
    | some s => sp2 ml (bsn rd j) (w % 7) s
def btr (b : Option B3) (h ms : Int32) (w : Nat) : Option B3 := match b with
  | none => some (h, ms, w)
  | some (h0, m0, w0) => if h < h0 then some (h0, m0, w0) else if h = h0 then (if ms < m0 then some (h, ms, w) else some (h0, m0, w0)) else some (h, ms, w)
def fl (m : Nat) : Nat → Option B3
  | 0 => none
  | w + 1 => match CK rd ml m w with
    | none => fl m w
    | some s => btr (fl m w) s.2.1 s.2.2 w
theorem bc_s (t : Nat) : bc rd (t + 1) = if rd t = 0 then bc rd t + 1 else bc rd t := rfl
theorem bc_mono {t : Nat} : ∀ d, bc rd t ≤ bc rd (t + d)
  | 0 => Nat.le_refl _
  | d + 1 => by
    have := bc_mono (t := t) d
    rw [← Nat.add_assoc, bc_s]
    split <;> omega
theorem bc_le {t u : Nat} (h : t ≤ u) : bc rd t ≤ bc rd u := by
  have := bc_mono rd (t := t) (u - t)
  rwa [show t + (u - t) = u by omega] at this
theorem bc_n : ∀ t, bc rd t ≤ t
  | 0 => Nat.le_refl _
  | t + 1 => by
    have := bc_n t
    rw [bc_s]
    split <;> omega
theorem bc_lt {t u : Nat} (h : t < u) (b : rd t = 0) : bc rd t + 1 ≤ bc rd u := by
  have := bc_le rd (t := t + 1) (u := u) h
  rw [bc_s, if_pos b] at this
  exact this
theorem bsv_at {t : Nat} (b : rd t = 0) : ∀ d, bsv' rd (t + 1 + d) (bc rd t) = t
  | 0 => by
    show (if rd t = 0 ∧ bc rd t = bc rd t then t else _) = t
    exact if_pos ⟨b, rfl⟩
  | d + 1 => by
    have ih := bsv_at b d
    have l := bc_lt rd (t := t) (u := t + 1 + d) (by omega) b
    show (if rd (t + 1 + d) = 0 ∧ bc rd (t + 1 + d) = bc rd t then t + 1 + d else bsv' rd (t + 1 + d) (bc rd t)) = t
    rw [if_neg (fun q => by omega)]
    exact ih
theorem bsn_at {t : Nat} (ht : t < 6) (b : rd t = 0) : bsn rd (bc rd t) = t := by
  have := bsv_at rd b (5 - t)
  rwa [show t + 1 + (5 - t) = 6 by omega] at this
theorem bc_ex {j : Nat} : ∀ T, j < bc rd T → ∃ t, t < T ∧ rd t = 0 ∧ bc rd t = j
  | 0, h => by unfold bc at h; omega
  | T + 1, h => by
    rw [bc_s] at h
    by_cases b : rd T = 0
    · rw [if_pos b] at h
      by_cases e : bc rd T = j
      · exact ⟨T, by omega, b, e⟩
      · obtain ⟨t, h1, h2⟩ := bc_ex (j := j) T (by omega)
        exact ⟨t, by omega, h2⟩
    · rw [if_neg b] at h
      obtain ⟨t, h1, h2⟩ := bc_ex (j := j) T h
      exact ⟨t, by omega, h2⟩
theorem CK_s (j w : Nat) : CK rd ml (j + 1) w = match CK rd ml j (w / 7) with
    | none => none
    | some s => sp2 ml (bsn rd j) (w % 7) s := rfl
theorem CK_n {j : Nat} : ∀ d w, CK rd ml j (w / 7 ^ d) = none → CK rd ml (j + d) w = none
  | 0, w, h => by rw [Nat.pow_zero, Nat.div_one] at h; exact h
  | d + 1, w, h => by
    have e : w / 7 ^ (d + 1) = w / 7 / 7 ^ d := by rw [Nat.div_div_eq_div_mul, Nat.pow_succ, Nat.mul_comm]
    rw [e] at h
    have ih := CK_n d (w / 7) h
    rw [← Nat.add_assoc, CK_s, ih]
theorem CK_h {j : Nat} : ∀ {w : Nat} {s : St}, CK rd ml j w = some s → j ≤ 6 → rng s.2.1 0 j := by
  induction j with
  | zero =>
    intro w s h _
    have e : some (st0 rd) = some s := h
    injection e with e
    subst e
    show rng 0 0 0
    decide
  | succ j ih =>
    intro w s h hj
    rw [CK_s] at h
    cases c : CK rd ml j (w / 7) with
    | none => rw [c] at h; exact absurd h (by simp)
    | some u =>
      rw [c] at h
      have iu := ih c (by omega)
      simp only [] at h
      unfold sp2 at h
      unfold rng at *
      by_cases a : w % 7 = 6
      · rw [if_pos a] at h
        injection h with h
        subst h
        omega
      · rw [if_neg a] at h
        by_cases b : u.1 (w % 7) < 1
        · rw [if_pos b] at h; exact absurd h (by simp)
        · rw [if_neg b] at h
          by_cases d : ab (ml (w % 7) - ml (bsn rd j)) ≤ 80
          · rw [if_pos d] at h
            injection h with h
            subst h
            show 0 ≤ (u.2.1 + 1).toInt ∧ (u.2.1 + 1).toInt ≤ _
            rw [add_ti (by simp; omega) (by simp; omega)]
            simp
            omega
          · rw [if_neg d] at h; exact absurd h (by simp)
theorem fl_s (m w : Nat) : fl rd ml m (w + 1) = match CK rd ml m w with
    | none => fl rd ml m w
    | some s => btr (fl rd ml m w) s.2.1 s.2.2 w := rfl
theorem fl_z (m a : Nat) : ∀ c, (∀ W, a ≤ W → W < a + c → CK rd ml m W = none) → fl rd ml m (a + c) = fl rd ml m a
  | 0, _ => rfl
  | c + 1, h => by
    rw [← Nat.add_assoc, fl_s, h (a + c) (by omega) (by omega)]
    exact fl_z m a c (fun W h1 h2 => h W h1 (by omega))
/-- a prefix that falls takes its whole range with it -/
theorem fl_skip {j m x : Nat} (hj : j ≤ m) (h : CK rd ml j x = none) : fl rd ml m ((x + 1) * 7 ^ (m - j)) = fl rd ml m (x * 7 ^ (m - j)) := by
  rw [Nat.add_mul, Nat.one_mul]
  refine fl_z rd ml m _ _ (fun W h1 h2 => ?_)
  have e : W / 7 ^ (m - j) = x := by
    have p : 0 < 7 ^ (m - j) := Nat.pow_pos (by decide)
    refine Nat.div_eq_of_lt_le h1 ?_
    rw [Nat.add_mul, Nat.one_mul]
    exact h2
  have := CK_n rd ml (m - j) W (by rw [e]; exact h)
  rwa [show j + (m - j) = m by omega] at this
/-- what a plan says of a station -/
def dgt (j w s : Nat) : Nat := w / 7 ^ (j - 1 - bc rd s) % 7
def frv (j w s : Nat) : Int32 := if rd s = 0 then (if dgt rd j w s = 6 then -9 else nI (dgt rd j w s)) else -9
theorem frv_up {j w d s t : Nat} (hd : d < 7) (hs : s < t) (hj : bc rd t = j) : frv rd (j + 1) (w * 7 + d) s = frv rd j w s := by
  unfold frv
  by_cases b : rd s = 0
  · have l := bc_lt rd hs b
    have e : dgt rd (j + 1) (w * 7 + d) s = dgt rd j w s := by
      unfold dgt
      rw [show j + 1 - 1 - bc rd s = (j - 1 - bc rd s) + 1 by omega, Nat.pow_succ, Nat.mul_comm (7 ^ _), ← Nat.div_div_eq_div_mul, show (w * 7 + d) / 7 = w by omega]
    rw [e]
  · rw [if_neg b, if_neg b]
theorem frv_at {j w d t : Nat} (hd : d < 7) (b : rd t = 0) (hj : bc rd t = j) : frv rd (j + 1) (w * 7 + d) t = if d = 6 then -9 else nI d := by
  have e : dgt rd (j + 1) (w * 7 + d) t = d := by
    unfold dgt
    rw [hj, show j + 1 - 1 - j = 0 by omega, Nat.pow_zero, Nat.div_one]
    omega
  unfold frv
  rw [if_pos b, e]
end PL
