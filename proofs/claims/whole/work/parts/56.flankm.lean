/-! the flanks, as the model finds them -/
abbrev S56 (h _k : Nat) : Prop := h = 56
abbrev S57 (h _k : Nat) : Prop := h = 57
abbrev S58 (h _k : Nat) : Prop := h = 58
theorem nI_d7 {x : Nat} (h : x < 2147483648) : nI x / 7 = nI (x / 7) := by
  rw [i32_eq, div_ti (by rw [ti_nI h]; omega) (by decide), ti_nI h, ti_nI (by omega)]
  show (x : Int) / 7 = ((x / 7 : Nat) : Int)
  omega
theorem nI_m7 {x : Nat} (h : x < 2147483648) : irm (nI x) 7 = nI (x % 7) := by
  rw [i32_eq, irm_ti (by rw [ti_nI h]; omega) (by decide), ti_nI h, ti_nI (by omega)]
  show (x : Int) % 7 = ((x % 7 : Nat) : Int)
  omega
theorem ab_sym {x y : Int32} (hx : rng x 0 300) (hy : rng y 0 300) : ab (x - y) = ab (y - x) := by
  unfold rng at hx hy
  have e1 : (x - y).toInt = x.toInt - y.toInt := sub_ti (by omega) (by omega)
  have e2 : (y - x).toInt = y.toInt - x.toInt := sub_ti (by omega) (by omega)
  rw [i32_eq, ab_ti (by rw [e1]; omega), ab_ti (by rw [e2]; omega), e1, e2]
  split <;> split <;> omega
theorem M_h4 {μ : Mem} (sT : ST μ) {n : Nat} (hn : n ≤ 8) (h1 : gi μ 27 2 = nI n) (K : Nat → Int32 → Mem → Option (LV × Mem)) : ∀ f k ν, k ≤ 6 → 6 - k < f → Fr SF μ ν → (∀ j, j < k → gi ν 58 j = 6 ∧ (rdv μ n j = 0 → gi ν 55 (bc (rdv μ n) j) = nI j)) → ∃ ν', k_M_helps_4 K 27 f (nI (bc (rdv μ n) k)) (nI k) ν = K 27 (nI (bc (rdv μ n) 6)) ν' ∧ Fr SF μ ν' ∧ ∀ j, j < 6 → gi ν' 58 j = 6 ∧ (rdv μ n j = 0 → gi ν' 55 (bc (rdv μ n) j) = nI j)
  | 0, k, ν, _, h, _, _ => by omega
  | f + 1, k, ν, hk, h, fr, inv => by
    have st := sT.fr fr
    have sA : ∀ a b x, ST (si ν a b x) := fun _ _ _ => st
    simp only [k_M_helps_4]
    by_cases q : k = 6
    · subst q
      rw [if_pos (by decide)]
      exact ⟨ν, rfl, fr, inv⟩
    · have k6 : k < 6 := by omega
      have ik : inb (nI k) 6 := inb_nI k6 (by omega)
      have bk := bc_n (rdv μ n) k
      have fr1 : Fr SF μ (si ν 58 k 6) := fr.tr (Fr.si (S := SF) (by omega))
      rw [if_neg (show ¬ (6 : Int32) ≤ nI k from nI_ge (b := 6) k6 (by omega)), e_gR27_37 st, e_aS58 st ik, cl_nI (by omega), e_cV27 (sA _ _ _), M_stn sT hn h1 fr1, e_bI]
      by_cases r : rdv μ n k = 0
      · rw [if_pos r, e_gR27_34 (sA _ _ _), e_aS55 (sA _ _ _) (inb_nI (by omega) (by omega)), cl_nI (by omega)]
        unfold b_M_helps_36
        rw [nI_1, nI_1, show bc (rdv μ n) k + 1 = bc (rdv μ n) (k + 1) by rw [bc_s, if_pos r]]
        refine M_h4 sT hn h1 K f (k + 1) _ (by omega) (by omega) (fr1.tr (Fr.si (S := SF) (by omega))) (fun j hj => ?_)
        by_cases e : j = k
        · rw [e]
          exact ⟨by rw [gi_ne (by omega), gi_eq], fun _ => gi_eq _ _ _ _⟩
        · refine ⟨by rw [gi_ne (by omega), gi_ne (by omega)]; exact (inv j (by omega)).1, fun z => ?_⟩
          have l := bc_lt (rdv μ n) (t := j) (u := k) (by omega) z
          rw [gi_ne (by omega), gi_ne (by omega)]
          exact (inv j (by omega)).2 z
      · rw [if_neg r]
        unfold b_M_helps_36
        rw [nI_1, show bc (rdv μ n) k = bc (rdv μ n) (k + 1) by rw [bc_s, if_neg r]]
        refine M_h4 sT hn h1 K f (k + 1) _ (by omega) (by omega) fr1 (fun j hj => ?_)
        by_cases e : j = k
        · rw [e]
          exact ⟨gi_eq _ _ _ _, fun z => absurd z r⟩
        · exact ⟨by rw [gi_ne (by omega)]; exact (inv j (by omega)).1, fun z => by rw [gi_ne (by omega)]; exact (inv j (by omega)).2 z⟩
theorem M_h56 (K : Nat → Int32 → Int32 → Mem → Option (LV × Mem)) {m : Nat} (hm : m ≤ 6) (ν : Mem) : ∀ f i, i ≤ m → m - i < f → k_M_helps_56 K 27 (nI m) f (nI (7 ^ i)) (nI i) ν = K 27 (nI m) (nI (7 ^ m)) ν
  | 0, i, _, h => by omega
  | f + 1, i, hi, h => by
    simp only [k_M_helps_56]
    by_cases q : i = m
    · subst q
      rw [if_pos (nI_le (Nat.le_refl _) (by omega))]
    · rw [if_neg (nI_ge (by omega) (by omega)), e_nm, show nI (7 ^ i) * 7 = nI (7 ^ (i + 1)) by rw [Nat.pow_succ]; exact pk_mul _ 7, nI_1]
      exact M_h56 K hm ν f (i + 1) (by omega) (by omega)
theorem M_h86 {μ ν0 : Mem} (sT : ST μ) {n : Nat} (hn : n ≤ 8) (h1 : gi μ 27 2 = nI n) (f0 : Fr SF μ ν0) (K : Int32 → Int32 → Mem → Option (LV × Mem)) (a1 a2 a3 a4 : Int32) : ∀ f k ν, k ≤ 6 → 6 - k < f → Fr S56 ν0 ν → (∀ j, j < k → gi ν 56 j = rdv μ n j - 1) → ∃ ν', k_M_helps_86 K 27 a1 a2 a3 a4 f (nI k) ν = K a3 a4 ν' ∧ Fr S56 ν0 ν' ∧ ∀ j, j < 6 → gi ν' 56 j = rdv μ n j - 1
  | 0, k, ν, _, h, _, _ => by omega
  | f + 1, k, ν, hk, h, fr, inv => by
    have fm : Fr SF μ ν := f0.tr (fr.up (fun h k q => by omega))
    have st := sT.fr fm
    simp only [k_M_helps_86]
    by_cases q : k = 6
    · subst q
      rw [if_pos (by decide)]
      exact ⟨ν, rfl, fr, inv⟩
    · have k6 : k < 6 := by omega
      have ik : inb (nI k) 6 := inb_nI k6 (by omega)
      rw [if_neg (show ¬ (6 : Int32) ≤ nI k from nI_ge (b := 6) k6 (by omega)), e_gR27_35 st, e_cV27 st, M_stn sT hn h1 fm, e_bI, e_aS56 st ik, cl_nI (by omega), nI_1]
      refine M_h86 sT hn h1 f0 K a1 a2 a3 a4 f (k + 1) _ (by omega) (by omega) (fr.tr (Fr.si (S := S56) rfl)) (fun j hj => ?_)
      by_cases e : j = k
      · rw [e, gi_eq]
      · rw [gi_ne (by omega)]
        exact inv j (by omega)
theorem M_h123 {ν0 : Mem} (s0 : ST ν0) (K : Int32 → Int32 → Mem → Option (LV × Mem)) {m w : Nat} (hm : m ≤ 6) (hw : w < 2147483648) (a2 a3 a4 : Int32) : ∀ f c ν, c ≤ m → c < f → Fr S57 ν0 ν → (∀ i, c ≤ i → i < m → gi ν 57 i = nI (w / 7 ^ (m - 1 - i) % 7)) → ∃ ν', k_M_helps_123 K 27 (nI m) a2 a3 a4 f (nI (w / 7 ^ (m - c))) (nI c - 1) ν = K a3 a4 ν' ∧ Fr S57 ν0 ν' ∧ ∀ i, i < m → gi ν' 57 i = nI (w / 7 ^ (m - 1 - i) % 7)
  | 0, c, ν, _, h, _, _ => by omega
  | f + 1, 0, ν, hc, h, fr, inv => by
    simp only [k_M_helps_123]
    rw [if_pos (by decide)]
    exact ⟨ν, rfl, fr, fun i hi => inv i (by omega) hi⟩
  | f + 1, c + 1, ν, hc, h, fr, inv => by
    have st := s0.fr fr
    have wl : w / 7 ^ (m - (c + 1)) < 2147483648 := Nat.lt_of_le_of_lt (Nat.div_le_self _ _) hw
    have ex : w / 7 ^ (m - (c + 1)) / 7 = w / 7 ^ (m - c) := by
      rw [Nat.div_div_eq_div_mul, ← Nat.pow_succ, show (m - (c + 1)).succ = m - c by omega]
    simp only [k_M_helps_123]
    rw [nI_s1, if_neg (nI_nlt0 (by omega)), e_gR27_36 st, e_aS57 st (inb_nI (by omega) (by omega)), cl_nI (by omega), e_nm, nI_m7 wl, nI_d7 wl, ex, ← Int32.sub_eq_add_neg]
    refine M_h123 s0 K hm hw a2 a3 a4 f c _ (by omega) (by omega) (fr.tr (Fr.si (S := S57) rfl)) (fun i h1 h2 => ?_)
    by_cases e : i = c
    · rw [e, gi_eq, show m - 1 - c = m - (c + 1) by omega]
    · rw [gi_ne (by omega)]
      exact inv i (by omega) h2
/-- what the model knows of a plan: many, far, may, and the boats that are free -/
def TS (ν : Mem) (r : Option St) (a6 a7 a8 : Int32) : Prop := match r with
  | none => a8 = 0
  | some s => a8 = 1 ∧ a6 = s.2.1 ∧ a7 = s.2.2 ∧ ∀ k, k < 6 → s.1 k = mx 0 (gi ν 56 k)
theorem M_b248 {ν : Mem} (st : ST ν) {i d : Nat} (hi : i < 6) (hd : d < 6) (hc : gi ν 57 i = nI d) (C : Int32 → Int32 → Int32 → Int32 → Mem → Option (LV × Mem)) (a1 a2 a3 a4 a6 a7 a10 s0 : Int32) : b_M_helps_248 C 27 a1 a2 a3 a4 a6 a7 (nI i) a10 s0 ν = C (a6 + 1) (a7 + a10) s0 (nI (i + 1)) (si ν 56 d (gi ν 56 d - 1)) := by
  unfold b_M_helps_248
  rw [e_gR27_35 st, e_gR27_36 st, e_aI57 st (inb_nI hi (by omega)), cl_nI (by omega), hc, e_aI56 st (inb_nI hd (by omega)), cl_nI (by omega), e_aS56 st (inb_nI hd (by omega)), cl_nI (by omega), e_nm]
  unfold b_M_helps_276
  rw [nI_1]
theorem mx_lt1 (x : Int32) : mx 0 x < 1 ↔ x ≤ 0 := by
  unfold mx
  by_cases h : 0 ≤ x
  · rw [if_pos h]
    exact lt_1 x
  · rw [if_neg h]
    rw [i32_le] at h ⊢
    rw [i32_lt]
    simp at h ⊢
    omega
theorem mx_dec {x : Int32} (h : ¬ x ≤ 0) : mx 0 x - 1 = mx 0 (x - 1) := by
  rw [i32_le] at h
  have h2 := Int32.toInt_lt x
  simp at h
  have e : (x - 1).toInt = x.toInt - 1 := sub_ti (by simp; omega) (by simp; omega)
  unfold mx
  rw [if_pos (by rw [i32_le]; simp; omega), if_pos (by rw [i32_le, e]; simp; omega)]
theorem M_h165 {ν0 : Mem} (s0 : ST ν0) (rd ml : Nat → Int32) {w : Nat} (bare : ∀ j, j < 6 → rd j = 0 → gi ν0 55 (bc rd j) = nI j) (cho : ∀ i, i < bc rd 6 → gi ν0 57 i = nI (w / 7 ^ (bc rd 6 - 1 - i) % 7)) (hml : ∀ j, j < 6 → gi ν0 28 j = ml j) (rml : ∀ j, j < 6 → rng (ml j) 0 300) (K : Int32 → Int32 → Int32 → Int32 → Int32 → Mem → Option (LV × Mem)) (a2 a3 a4 : Int32) : ∀ f i a6 a7 a8 ν, i ≤ bc rd 6 → bc rd 6 - i < f → Fr S56 ν0 ν → TS ν (CK rd ml i (w / 7 ^ (bc rd 6 - i))) a6 a7 a8 → ∃ ν' b6 b7 b8, k_M_helps_165 K 27 (nI (bc rd 6)) a2 a3 a4 f a6 a7 a8 (nI i) ν = K a3 a4 b6 b7 b8 ν' ∧ Fr S56 ν0 ν' ∧ TS ν' (CK rd ml (bc rd 6) w) b6 b7 b8
  | 0, i, a6, a7, a8, ν, _, h, _, _ => by omega
  | f + 1, i, a6, a7, a8, ν, hi, h, fr, ts => by
    have st := s0.fr fr
    have m6 := bc_n rd 6
    simp only [k_M_helps_165]
    by_cases q : i = bc rd 6
    · subst q
      rw [Nat.sub_self, Nat.pow_zero, Nat.div_one] at ts
      rw [if_pos (nI_le (Nat.le_refl _) (by omega))]
      exact ⟨ν, a6, a7, a8, rfl, fr, ts⟩
    · have im : i < bc rd 6 := by omega
      obtain ⟨t, t6, r, bt⟩ := bc_ex rd 6 im
      have hb : bsn rd i = t := by rw [← bt]; exact bsn_at rd t6 r
      have ii : inb (nI i) 6 := inb_nI (by omega) (by omega)
      have it : inb (nI t) 6 := inb_nI t6 (by omega)
      obtain ⟨d, hd⟩ : ∃ d, d = w / 7 ^ (bc rd 6 - (i + 1)) % 7 := ⟨_, rfl⟩
      have d7 : d < 7 := by rw [hd]; exact Nat.mod_lt _ (by decide)
      have ex : w / 7 ^ (bc rd 6 - (i + 1)) / 7 = w / 7 ^ (bc rd 6 - i) := by
        rw [Nat.div_div_eq_div_mul, ← Nat.pow_succ, show (bc rd 6 - (i + 1)).succ = bc rd 6 - i by omega]
      have hc : gi ν 57 i = nI d := by
        rw [fr.2 57 i (by omega), cho i im, hd, show bc rd 6 - 1 - i = bc rd 6 - (i + 1) by omega]
      have ckn : CK rd ml (i + 1) (w / 7 ^ (bc rd 6 - (i + 1))) = match CK rd ml i (w / 7 ^ (bc rd 6 - i)) with
          | none => none
          | some s => sp2 ml t d s := by
        rw [CK_s, ex, ← hd, hb]
        cases CK rd ml i (w / 7 ^ (bc rd 6 - i)) <;> rfl
      rw [if_neg (nI_ge im (by omega)), e_gR27_36 st, e_aI57 st ii, cl_nI (by omega), hc]
      by_cases d6 : d = 6
      · subst d6
        rw [if_pos (by decide)]
        unfold b_M_helps_276
        rw [nI_1]
        refine M_h165 s0 rd ml bare cho hml rml K a2 a3 a4 f (i + 1) a6 a7 a8 ν (by omega) (by omega) fr ?_
        rw [ckn]
        cases c : CK rd ml i (w / 7 ^ (bc rd 6 - i)) with
        | none => rw [c] at ts; exact ts
        | some s =>
          rw [c] at ts
          show TS ν (sp2 ml t 6 s) a6 a7 a8
          unfold sp2
          rw [if_pos rfl]
          exact ts
      · have d6' : d < 6 := by omega
        have idd : inb (nI d) 6 := inb_nI d6' (by omega)
        have b55 : gi ν 55 i = nI t := by rw [fr.2 55 i (by omega), ← bt]; exact bare t t6 r
        have m28 : ∀ j, j < 6 → gi ν 28 j = ml j := fun j hj => (fr.2 28 j (by omega)).trans (hml j hj)
        have nx : ∀ z, TS (si ν 56 d (gi ν 56 d - 1)) (CK rd ml (i + 1) (w / 7 ^ (bc rd 6 - (i + 1)))) (a6 + 1) (a7 + ab (ml t - ml d)) z → ∃ ν' b6 b7 b8, b_M_helps_248 (k_M_helps_165 K 27 (nI (bc rd 6)) a2 a3 a4 f) 27 (nI (bc rd 6)) a2 a3 a4 a6 a7 (nI i) (ab (ml t - ml d)) z ν = K a3 a4 b6 b7 b8 ν' ∧ Fr S56 ν0 ν' ∧ TS ν' (CK rd ml (bc rd 6) w) b6 b7 b8 := by
          intro z hz
          rw [M_b248 st (by omega) d6' hc]
          exact M_h165 s0 rd ml bare cho hml rml K a2 a3 a4 f (i + 1) _ _ z _ (by omega) (by omega) (fr.tr (Fr.si (S := S56) rfl)) hz
        have sy : ab (ml t - ml d) = ab (ml d - ml t) := ab_sym (rml t t6) (rml d d6')
        rw [if_neg (show ¬ nI d = 6 from fun q => d6 (nI_inj (b := 6) (by omega) (by omega) q)), e_gR27_7 st, e_gR27_34 st, e_aI55 st ii, cl_nI (by omega), b55, e_aI28 st it, cl_nI (by omega), m28 t t6, e_gR27_7 st, e_gR27_36 st, e_aI57 st ii, cl_nI (by omega), hc, e_aI28 st idd, cl_nI (by omega), m28 d d6', M_size, e_bI]
        unfold b_M_helps_247
        cases c : CK rd ml i (w / 7 ^ (bc rd 6 - i)) with
        | none =>
          rw [c] at ts ckn
          have ts' : a8 = 0 := ts
          rw [if_pos ts']
          exact nx 0 (by rw [ckn]; exact rfl)
        | some s =>
          rw [c] at ts ckn
          have ckn' : CK rd ml (i + 1) (w / 7 ^ (bc rd 6 - (i + 1))) = sp2 ml t d s := ckn
          obtain ⟨t1, t2, t3, t4⟩ := ts
          rw [if_neg (by rw [t1]; decide)]
          by_cases v1 : s.1 d < 1
          · have n0 := nx 0 (by rw [ckn']; unfold sp2; rw [if_neg d6, if_pos v1]; exact rfl)
            by_cases v2 : 80 < ab (ml t - ml d)
            · rw [if_pos v2]
              exact n0
            · rw [if_neg v2, e_gR27_35 st, e_gR27_36 st, e_aI57 st ii, cl_nI (by omega), hc, e_aI56 st idd, cl_nI (by omega), if_pos ((mx_lt1 _).mp (by rw [← t4 d d6']; exact v1))]
              exact n0
          · by_cases v2 : 80 < ab (ml t - ml d)
            · rw [if_pos v2]
              refine nx 0 ?_
              rw [ckn']
              unfold sp2
              rw [if_neg d6, if_neg v1, if_neg (fun q => by rw [← sy] at q; exact absurd v2 (Int32.not_lt.mpr q))]
              exact rfl
            · have fp : ¬ gi ν 56 d ≤ 0 := fun z => v1 (by rw [t4 d d6']; exact (mx_lt1 _).mpr z)
              rw [if_neg v2, e_gR27_35 st, e_gR27_36 st, e_aI57 st ii, cl_nI (by omega), hc, e_aI56 st idd, cl_nI (by omega), if_neg fp]
              refine nx 1 ?_
              rw [ckn']
              unfold sp2
              rw [if_neg d6, if_neg v1, if_pos (by rw [← sy]; exact Int32.not_lt.mp v2)]
              refine ⟨rfl, by rw [t2], by rw [t3, sy], fun k hk => ?_⟩
              by_cases e : k = d
              · rw [e, gi_eq]
                refine (if_pos rfl).trans ?_
                rw [t4 d d6']
                exact mx_dec fp
              · rw [gi_ne (by omega)]
                exact (if_neg e).trans (t4 k hk)
