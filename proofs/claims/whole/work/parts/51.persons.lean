/-! the crew rows, person by person -/
/-- digit by digit not above -/
def dle (r t : Nat) : Prop := r / 189 ≤ t / 189 ∧ r / 27 % 7 ≤ t / 27 % 7 ∧ r / 9 % 3 ≤ t / 9 % 3 ∧ r / 3 % 3 ≤ t / 3 % 3 ∧ r % 3 ≤ t % 3
theorem dg_eq (r : Nat) : r = 189 * (r / 189) + 27 * (r / 27 % 7) + 9 * (r / 9 % 3) + 3 * (r / 3 % 3) + r % 3 := by
  have h1 : r / 189 = r / 27 / 7 := by rw [Nat.div_div_eq_div_mul]
  have h2 : r / 27 = r / 9 / 3 := by rw [Nat.div_div_eq_div_mul]
  have h3 : r / 9 = r / 3 / 3 := by rw [Nat.div_div_eq_div_mul]
  rw [h1]
  have a1 := Nat.div_add_mod (r / 27) 7
  have a2 := Nat.div_add_mod (r / 9) 3
  have a3 := Nat.div_add_mod (r / 3) 3
  have a4 := Nat.div_add_mod r 3
  rw [← h2] at a2
  rw [← h3] at a3
  generalize r / 27 / 7 = t at *
  generalize r / 27 % 7 = t1 at *
  generalize r / 9 % 3 = t2 at *
  generalize r / 3 % 3 = t3 at *
  generalize r % 3 = t4 at *
  generalize r / 27 = u at *
  generalize r / 9 = v at *
  generalize r / 3 = w at *
  clear h1 h2 h3
  omega
theorem dle_le {r t : Nat} (h : dle r t) : r ≤ t := by
  have e1 := dg_eq r
  have e2 := dg_eq t
  unfold dle at h
  generalize r / 189 = a1 at *
  generalize r / 27 % 7 = a2 at *
  generalize r / 9 % 3 = a3 at *
  generalize r / 3 % 3 = a4 at *
  generalize r % 3 = a5 at *
  generalize t / 189 = b1 at *
  generalize t / 27 % 7 = b2 at *
  generalize t / 9 % 3 = b3 at *
  generalize t / 3 % 3 = b4 at *
  generalize t % 3 = b5 at *
  omega
theorem dl_le (k : Nat) : (dl k).1 ≤ 1 ∧ (dl k).2.1 ≤ 1 ∧ (dl k).2.2.1 ≤ 1 ∧ (dl k).2.2.2.1 ≤ 1 ∧ (dl k).2.2.2.2 ≤ 1 := by
  unfold dl
  split
  · refine ⟨Nat.le_refl _, Nat.zero_le _, ?_, ?_, ?_⟩ <;> (simp only []; split <;> decide)
  · decide
theorem rwn_d (r k : Nat) : rwn r k / 189 = min 6 (r / 189 + (dl k).1) ∧ rwn r k / 27 % 7 = min 6 (r / 27 % 7 + (dl k).2.1) ∧ rwn r k / 9 % 3 = min 2 (r / 9 % 3 + (dl k).2.2.1) ∧ rwn r k / 3 % 3 = min 2 (r / 3 % 3 + (dl k).2.2.2.1) ∧ rwn r k % 3 = min 2 (r % 3 + (dl k).2.2.2.2) := by
  unfold rwn
  generalize (dl k).1 = a
  generalize (dl k).2.1 = b
  generalize (dl k).2.2.1 = c
  generalize (dl k).2.2.2.1 = d
  generalize (dl k).2.2.2.2 = e
  have h1 : min 6 (r / 189 + a) ≤ 6 := Nat.min_le_left _ _
  have h2 : min 6 (r / 27 % 7 + b) ≤ 6 := Nat.min_le_left _ _
  have h3 : min 2 (r / 9 % 3 + c) ≤ 2 := Nat.min_le_left _ _
  have h4 : min 2 (r / 3 % 3 + d) ≤ 2 := Nat.min_le_left _ _
  have h5 : min 2 (r % 3 + e) ≤ 2 := Nat.min_le_left _ _
  generalize min 6 (r / 189 + a) = A at *
  generalize min 6 (r / 27 % 7 + b) = B at *
  generalize min 2 (r / 9 % 3 + c) = C at *
  generalize min 2 (r / 3 % 3 + d) = D at *
  generalize min 2 (r % 3 + e) = E at *
  refine ⟨by omega, ?_, ?_, ?_, by omega⟩
  · rw [show (189 * A + 27 * B + 9 * C + 3 * D + E) / 27 = 7 * A + B by omega]; omega
  · rw [show (189 * A + 27 * B + 9 * C + 3 * D + E) / 9 = 21 * A + 3 * B + C by omega]; omega
  · rw [show (189 * A + 27 * B + 9 * C + 3 * D + E) / 3 = 63 * A + 9 * B + 3 * C + D by omega]; omega
theorem rwn_lt (r k : Nat) : rwn r k < 1323 := by
  unfold rwn
  have h1 : min 6 (r / 189 + (dl k).1) ≤ 6 := Nat.min_le_left _ _
  have h2 : min 6 (r / 27 % 7 + (dl k).2.1) ≤ 6 := Nat.min_le_left _ _
  have h3 : min 2 (r / 9 % 3 + (dl k).2.2.1) ≤ 2 := Nat.min_le_left _ _
  have h4 : min 2 (r / 3 % 3 + (dl k).2.2.2.1) ≤ 2 := Nat.min_le_left _ _
  have h5 : min 2 (r % 3 + (dl k).2.2.2.2) ≤ 2 := Nat.min_le_left _ _
  generalize min 6 (r / 189 + (dl k).1) = A at *
  generalize min 6 (r / 27 % 7 + (dl k).2.1) = B at *
  generalize min 2 (r / 9 % 3 + (dl k).2.2.1) = C at *
  generalize min 2 (r / 3 % 3 + (dl k).2.2.2.1) = D at *
  generalize min 2 (r % 3 + (dl k).2.2.2.2) = E at *
  omega
theorem mn_le {a m d : Nat} (h : a ≤ m) : a ≤ min m (a + d) := by omega
theorem mn_mono {a b m d : Nat} (h : a ≤ b) : min m (a + d) ≤ min m (b + d) := by omega
theorem rwn_dle {r k : Nat} (hr : r < 1323) : dle r (rwn r k) := by
  obtain ⟨d1, d2, d3, d4, d5⟩ := rwn_d r k
  unfold dle
  rw [d1, d2, d3, d4, d5]
  exact ⟨mn_le (by omega), mn_le (Nat.le_of_lt_succ (Nat.mod_lt _ (by decide))), mn_le (Nat.le_of_lt_succ (Nat.mod_lt _ (by decide))), mn_le (Nat.le_of_lt_succ (Nat.mod_lt _ (by decide))), mn_le (Nat.le_of_lt_succ (Nat.mod_lt _ (by decide)))⟩
theorem rwn_ge {r k : Nat} (hr : r < 1323) : r ≤ rwn r k := dle_le (rwn_dle hr)
theorem rwn_mono {r t k : Nat} (h : dle r t) : dle (rwn r k) (rwn t k) := by
  obtain ⟨d1, d2, d3, d4, d5⟩ := rwn_d r k
  obtain ⟨e1, e2, e3, e4, e5⟩ := rwn_d t k
  unfold dle at *
  rw [d1, d2, d3, d4, d5, e1, e2, e3, e4, e5]
  exact ⟨mn_mono h.1, mn_mono h.2.1, mn_mono h.2.2.1, mn_mono h.2.2.2.1, mn_mono h.2.2.2.2⟩
theorem dle_tr {r t u : Nat} (h : dle r t) (g : dle t u) : dle r u := by
  unfold dle at *
  exact ⟨Nat.le_trans h.1 g.1, Nat.le_trans h.2.1 g.2.1, Nat.le_trans h.2.2.1 g.2.2.1, Nat.le_trans h.2.2.2.1 g.2.2.2.1, Nat.le_trans h.2.2.2.2 g.2.2.2.2⟩
def smf (g : Nat → Int32) : Nat → Int32
  | 0 => 0
  | n + 1 => smf g n + g n
theorem smf_s (g : Nat → Int32) (n : Nat) : smf g (n + 1) = smf g n + g n := rfl
theorem smf_z (g : Nat → Int32) {a : Nat} : ∀ d, (∀ q, a ≤ q → q < a + d → g q = 0) → smf g (a + d) = smf g a
  | 0, _ => rfl
  | d + 1, h => by
    rw [← Nat.add_assoc, smf_s, smf_z g d (fun q h1 h2 => h q h1 (by omega)), h (a + d) (by omega) (by omega), Int32.add_zero]
theorem smf_zz (g : Nat → Int32) {a n : Nat} (ha : a ≤ n) (h : ∀ q, a ≤ q → q < n → g q = 0) : smf g n = smf g a := by
  have := smf_z g (a := a) (n - a) (fun q h1 h2 => h q h1 (by omega))
  rwa [show a + (n - a) = n by omega] at this
def cmp (f : Nat → Int32) (a : Int32) (r : Nat) : Int32 := f r * a / 1024
theorem cmp_z {f : Nat → Int32} {a : Int32} {r : Nat} (h : f r = 0) : cmp f a r = 0 := by
  unfold cmp
  rw [h, Int32.zero_mul]
  rfl
def ctr (f : Nat → Int32) (k : Nat) (a : Int32) (r q : Nat) : Int32 := if rwn q k = r then cmp f a q else 0
theorem ctr_z {f : Nat → Int32} {k : Nat} {a : Int32} {r q : Nat} (h : f q = 0) : ctr f k a r q = 0 := by
  unfold ctr
  rw [cmp_z h]
  split <;> rfl
theorem ctr_t {f : Nat → Int32} {k : Nat} {a : Int32} {r q : Nat} (h : rwn q k = r) : ctr f k a r q = cmp f a q := if_pos h
theorem ctr_f {f : Nat → Int32} {k : Nat} {a : Int32} {r q : Nat} (h : ¬ rwn q k = r) : ctr f k a r q = 0 := if_neg h
/-- the rows after one more person -/
def nxt (f : Nat → Int32) (k : Nat) (a : Int32) (r : Nat) : Int32 := (f r - cmp f a r) + smf (ctr f k a r) 1323
theorem nxt_ne {f : Nat → Int32} {k : Nat} {a : Int32} {r : Nat} (h : ¬ nxt f k a r = 0) : ¬ f r = 0 ∨ ∃ q, q < 1323 ∧ rwn q k = r ∧ ¬ f q = 0 := by
  by_cases z : f r = 0
  · right
    by_cases w : ∃ q, q < 1323 ∧ rwn q k = r ∧ ¬ f q = 0
    · exact w
    · exfalso
      apply h
      unfold nxt
      rw [z, cmp_z z, smf_zz (ctr f k a r) (a := 0) (by omega) (fun q _ hq => ?_)]
      · rfl
      · unfold ctr
        by_cases e : rwn q k = r
        · rw [if_pos e]
          by_cases y : f q = 0
          · exact cmp_z y
          · exact absurd ⟨q, hq, e, y⟩ w
        · exact if_neg e
  · exact Or.inl z
/-- no row is reached from a higher one -/
theorem ctr_up {f : Nat → Int32} {k : Nat} {a : Int32} {r q : Nat} (hq : q < 1323) (h : r < q) : ctr f k a r q = 0 := by
  have := rwn_ge (r := q) (k := k) hq
  unfold ctr
  exact if_neg (by omega)
theorem add4 (a b c d : Int32) : a + b + (c + d) = a + c + (b + d) := by
  rw [Int32.add_assoc, Int32.add_assoc, ← Int32.add_assoc b, ← Int32.add_assoc c, Int32.add_comm b c]
section RO
variable {μ : Mem}
/-- the house's rows: from the top downwards -/
theorem R_loop (st0 : ST μ) (f : Nat → Int32) {k : Nat} (hk : k < 16) (a : Int32) (K : Nat → Int32 → Mem → Option (LV × Mem)) : ∀ n j ν, j ≤ 1323 → j < n → Fr (fun h _ => h = 14) μ ν → (∀ r, r < 1323 → gi ν 14 r + smf (ctr f k a r) j = (if j ≤ r then f r - cmp f a r else f r) + smf (ctr f k a r) 1323) →
    ∃ ν', k_R_mayCome_5 K 13 (nI k) a n (nI j - 1) ν = K 13 (nI k) ν' ∧ Fr (fun h _ => h = 14) μ ν' ∧ ∀ r, r < 1323 → gi ν' 14 r = nxt f k a r
  | 0, j, ν, _, h, _, _ => by omega
  | n + 1, 0, ν, _, h, fr, inv => by
    simp only [k_R_mayCome_5]
    rw [if_pos (by decide)]
    refine ⟨ν, rfl, fr, fun r hr => ?_⟩
    have := inv r hr
    rw [if_pos (Nat.zero_le _)] at this
    unfold nxt
    rw [← this]
    exact (Int32.add_zero _).symm
  | n + 1, j + 1, ν, hj, h, fr, inv => by
    have st := st0.fr fr
    have nx := fun ν2 => R_loop st0 f hk a K n j ν2 (by omega) (by omega)
    have ij : inb (nI j) 1323 := inb_nI (by omega) (by omega)
    have cj := cl_nI (p := j) (by omega)
    have fj : gi ν 14 j = f j := by
      have := inv j (by omega)
      rw [if_neg (by omega), ← smf_zz (ctr f k a j) (a := j + 1) (n := 1323) (by omega) (fun q h1 h2 => ctr_up h2 (by omega))] at this
      exact (Int32.add_left_inj _).mp this
    simp only [k_R_mayCome_5]
    rw [nI_s1, if_neg (nI_nlt0 (by omega)), e_gR13_0 st, e_aI14 st ij, cj, fj]
    have em : nI j + -1 = nI j - 1 := (Int32.sub_eq_add_neg _ _).symm
    by_cases z : f j = 0
    · rw [if_pos z]
      unfold b_R_mayCome_61
      rw [em]
      refine nx ν fr (fun r hr => ?_)
      have v := inv r hr
      rw [smf_s, ctr_z z, Int32.add_zero] at v
      rw [v]
      by_cases e : r = j
      · subst e
        rw [if_neg (by omega), if_pos (Nat.le_refl _), cmp_z z, Int32.sub_zero]
      · by_cases e2 : j ≤ r
        · rw [if_pos (by omega), if_pos e2]
        · rw [if_neg (by omega), if_neg e2]
    · rw [if_neg z, e_nm, e_gR13_0 st, e_aS14 st ij, cj]
      have sA : ∀ x y w, ST (si ν x y w) := fun _ _ _ => st
      have rl := rwn_lt j k
      have ir : inb (nI (rwn j k)) 1323 := inb_nI rl (by omega)
      rw [e_gR13_0 (sA _ _ _), R_with, e_bI, (rwn_v k hk j (by omega)).1, e_aI14 (sA _ _ _) ir, e_aS14 (sA _ _ _) ir, cl_nI (by omega)]
      unfold b_R_mayCome_61
      rw [em]
      refine nx _ (fr.tr ((Fr.si (S := fun h _ => h = 14) rfl).tr (Fr.si (S := fun h _ => h = 14) rfl))) (fun r hr => ?_)
      have v := inv r hr
      rw [smf_s] at v
      show gi (si (si ν 14 j (f j - cmp f a j)) 14 (rwn j k) (gi (si ν 14 j (f j - cmp f a j)) 14 (rwn j k) + cmp f a j)) 14 r + _ = _
      by_cases e : r = j
      · subst e
        rw [fj, if_neg (by omega : ¬ r + 1 ≤ r)] at v
        have v := (Int32.add_right_inj _).mp v
        rw [if_pos (Nat.le_refl _)]
        by_cases w : rwn r k = r
        · rw [ctr_t w] at v
          rw [w, gi_eq, gi_eq, ← v, Int32.add_assoc, Int32.add_comm (cmp f a r)]
        · rw [ctr_f w, Int32.add_zero] at v
          rw [gi_ne (by omega), gi_eq, ← v]
      · have ec : (if j ≤ r then f r - cmp f a r else f r) = (if j + 1 ≤ r then f r - cmp f a r else f r) := by
          by_cases q : j ≤ r
          · rw [if_pos q, if_pos (by omega)]
          · rw [if_neg q, if_neg (by omega)]
        rw [ec]
        by_cases w : rwn j k = r
        · rw [ctr_t w] at v
          rw [w, gi_eq, gi_ne (by omega), Int32.add_assoc, Int32.add_comm (cmp f a j)]
          exact v
        · rw [ctr_f w, Int32.add_zero] at v
          rw [gi_ne (by omega), gi_ne (by omega)]
          exact v
/-- the model's rows: upwards, into the other array -/
theorem N_loop (st0 : ST μ) (f : Nat → Int32) {k p : Nat} (hk : k < 16) (hp : p < 40) (a : Int32) (h10 : ¬ a = 1024) (s b : Int32) (K : Int32 → Mem → Option (LV × Mem)) (e31 : gi μ 31 p = nI k) (ef : ∀ r, r < 1323 → gi μ 53 r = f r) : ∀ n j ν, j ≤ 1323 → 1323 - j < n → Fr (fun h _ => h = 54) μ ν → (∀ r, r < 1323 → gi ν 54 r = (if r < j then f r - cmp f a r else 0) + smf (ctr f k a r) j) →
    ∃ ν', k_M_chanceOf_110 K 27 s b (nI p) a n (nI j) ν = K (nI p) ν' ∧ Fr (fun h _ => h = 54) μ ν' ∧ ∀ r, r < 1323 → gi ν' 54 r = nxt f k a r
  | 0, j, ν, _, h, _, _ => by omega
  | n + 1, j, ν, hj, h, fr, inv => by
    have st := st0.fr fr
    simp only [k_M_chanceOf_110]
    by_cases q : j = 1323
    · subst q
      rw [if_pos (by decide)]
      refine ⟨ν, rfl, fr, fun r hr => ?_⟩
      have := inv r hr
      rw [if_pos hr] at this
      exact this
    · have nx := fun ν2 => N_loop st0 f hk hp a h10 s b K e31 ef n (j + 1) ν2 (by omega) (by omega)
      have ij : inb (nI j) 1323 := inb_nI (by omega) (by omega)
      have ip : inb (nI p) 40 := inb_nI (by omega) (by omega)
      have cj := cl_nI (p := j) (by omega)
      have fj : gi ν 53 j = f j := (fr.2 53 j (by omega)).trans (ef j (by omega))
      have e31v : gi ν 31 p = nI k := (fr.2 31 p (by omega)).trans e31
      rw [if_neg (show ¬ (1323 : Int32) ≤ nI j from nI_ge (b := 1323) (by omega) (by omega)), e_gR27_32 st, e_aI53 st ij, cj, fj]
      by_cases z : f j = 0
      · rw [if_pos z]
        unfold b_M_chanceOf_205
        rw [nI_1]
        refine nx ν fr (fun r hr => ?_)
        rw [inv r hr, smf_s, ctr_z z, Int32.add_zero]
        by_cases e : r = j
        · subst e
          rw [if_neg (by omega), if_pos (by omega), cmp_z z, z, Int32.sub_zero]
        · by_cases e2 : r < j
          · rw [if_pos e2, if_pos (by omega)]
          · rw [if_neg e2, if_neg (by omega)]
      · rw [if_neg z, e_gR27_32 st, e_aI53 st ij, cj, fj, e_nm, if_neg h10]
        unfold b_M_chanceOf_164
        have sA : ∀ x y w, ST (si ν x y w) := fun _ _ _ => st
        have rl := rwn_lt j k
        have ir : inb (nI (rwn j k)) 1323 := inb_nI rl (by omega)
        rw [e_gR27_33 st, e_gR27_10 st, e_aI31 st ip, cl_nI (by omega : p < 2147483648), e31v, M_com, e_bI, (rwn_v k hk j (by omega)).2, e_aI54 st ir, e_aS54 st ir, cl_nI (by omega : rwn j k < 2147483648), e_gR27_33 (sA _ _ _), e_aI54 (sA _ _ _) ij, e_gR27_32 (sA _ _ _), e_aI53 (sA _ _ _) ij, e_aS54 (sA _ _ _) ij, cj]
        rw [show gi (si ν 54 (rwn j k) (gi ν 54 (rwn j k) + f j * a / 1024)) 53 j = f j from fj]
        unfold b_M_chanceOf_205
        rw [nI_1]
        refine nx _ (fr.tr ((Fr.si (S := fun h _ => h = 54) rfl).tr (Fr.si (S := fun h _ => h = 54) rfl))) (fun r hr => ?_)
        show gi (si (si ν 54 (rwn j k) (gi ν 54 (rwn j k) + cmp f a j)) 54 j (gi (si ν 54 (rwn j k) (gi ν 54 (rwn j k) + cmp f a j)) 54 j + (f j - cmp f a j))) 54 r = _
        have v := inv r hr
        rw [smf_s]
        by_cases e : r = j
        · subst e
          rw [if_neg (Nat.lt_irrefl _), Int32.zero_add] at v
          rw [if_pos (Nat.lt_succ_self _), gi_eq]
          by_cases w : rwn r k = r
          · rw [ctr_t w, w, gi_eq, v, Int32.add_comm]
          · rw [ctr_f w, gi_ne (by omega), v, Int32.add_zero, Int32.add_comm]
        · have ec : (if r < j + 1 then f r - cmp f a r else 0) = (if r < j then f r - cmp f a r else 0) := by
            by_cases q : r < j
            · rw [if_pos q, if_pos (by omega)]
            · rw [if_neg q, if_neg (by omega)]
          rw [ec, gi_ne (by omega)]
          by_cases w : rwn j k = r
          · rw [ctr_t w, w, gi_eq, v, Int32.add_assoc]
          · rw [ctr_f w, gi_ne (by omega), v, Int32.add_zero]
end RO
