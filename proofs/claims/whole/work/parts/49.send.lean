/-! send -/
section SE
variable {μ ν : Mem} {B C : Nat → Nat} {b c : Nat}
theorem rdy_eq (e : ∀ h, 27 ≤ h → h ≤ 43 → gi ν h = gi μ h) (b : Nat) : rdy ν b = rdy μ b := by
  unfold rdy
  rw [e 39 (by decide) (by decide), e 27 (by decide) (by decide)]
theorem lau_eq (e : ∀ h, 27 ≤ h → h ≤ 43 → gi ν h = gi μ h) (b : Nat) : lau ν b = lau μ b := by
  unfold lau
  rw [rdy_eq e, e 36 (by decide) (by decide), e 29 (by decide) (by decide), e 37 (by decide) (by decide)]
theorem wayv_eq (e : ∀ h, 27 ≤ h → h ≤ 43 → gi ν h = gi μ h) (b c : Nat) : wayv ν b c = wayv μ b c := by
  unfold wayv
  rw [e 28 (by decide) (by decide), e 37 (by decide) (by decide), e 41 (by decide) (by decide), e 42 (by decide) (by decide)]
theorem spd_eq (e : ∀ h, 27 ≤ h → h ≤ 43 → gi ν h = gi μ h) (b c : Nat) : spd ν b c = spd μ b c := by
  unfold spd
  rw [e 40 (by decide) (by decide), e 43 (by decide) (by decide)]
theorem can_eq (e : ∀ h, 27 ≤ h → h ≤ 43 → gi ν h = gi μ h) (b c : Nat) : can ν b c = can μ b c := by
  unfold can
  rw [spd_eq e, wayv_eq e, e 38 (by decide) (by decide)]
theorem rea_eq (e : ∀ h, 27 ≤ h → h ≤ 43 → gi ν h = gi μ h) (b c : Nat) : rea ν b c = rea μ b c := by
  unfold rea
  rw [can_eq e, lau_eq e, wayv_eq e, spd_eq e]
theorem M_launch2 (st : ST μ) (ia : inb (gi μ 37 b) 6) (r60 : rng (rdy μ b / 60) 0 10000) (hb : b < 8) : f_M_launch 27 (nI b) μ = some (.inl (lau μ b), μ) := by
  have key : ∀ x, rdy μ b = x + gi μ 27 6 → b_M_launch_21 27 (nI b) x μ = some (.inl (lau μ b), μ) := fun x hx => by
    unfold b_M_launch_21
    rw [e_gI27 st, ← hx, e_nm, e_nm, e_gR27_16 st, e_aI37 st (inb_nI hb (by omega)), cl_nI (by omega), e_cV27 st, M_open st ia r60.1, e_bI]
    unfold lau
    by_cases d : opn (gi μ 36) (gi μ 29) (gi μ 37 b) (rdy μ b / 60) = 0
    · rw [if_pos d, if_pos d]; exact M_srch st hb ia r60 120000 48 1 (by omega) (by omega)
    · rw [if_neg d, if_neg d]
  unfold f_M_launch
  rw [e_cV27 st, M_isAway st hb, e_bI]
  by_cases d : gi μ 39 b ≤ gi μ 27 0
  · rw [if_pos d, if_pos rfl, e_gI27 st]
    exact key _ (by unfold rdy; rw [if_pos d])
  · rw [if_neg d, if_neg (by decide), e_gR27_18 st, e_aI39 st (inb_nI hb (by omega)), cl_nI (by omega)]
    exact key _ (by unfold rdy; rw [if_neg d])
theorem M_reach2 (st : ST μ) (ia : inb (gi μ 37 b) 6) (is : inb (gi μ 43 c) 5) (r60 : rng (rdy μ b / 60) 0 10000) (hb : b < 8) (hc : c < 20) : f_M_reached 27 (nI b) (nI c) μ = some (.inl (rea μ b c), μ) := by
  unfold f_M_reached rea
  rw [e_cV27 st, M_canv st hb hc ia is, e_bI]
  by_cases h : can μ b c = 0
  · rw [if_pos h, if_pos h]
  · rw [if_neg h, if_neg h, e_cV27 st, M_launch2 st ia r60 hb, e_bI]
    by_cases q : lau μ b = -9
    · rw [if_pos q, if_pos q]
    · rw [if_neg q, if_neg q, e_cV27 st, M_way st hb hc ia, e_bI, e_cV27 st, M_spd st hb hc is, e_bI, Int32.mul_comm 60, M_upv (can_spd h), e_bI]
theorem srch_rng (o : Int32 → Int32) {h : Int32} (h0 : rng h 0 10000) : ∀ r k, k + r ≤ 49 → srch o h r k = -9 ∨ rng (srch o h r k) 0 (60 * h.toInt + 2880)
  | 0, k, _ => Or.inl rfl
  | r + 1, k, q => by
    have t := ti_nI (p := k) (by omega)
    have ih := srch_rng o h0 r (k + 1) (by omega)
    simp only [srch]
    by_cases d : o (h + nI k) = 0
    · rw [if_pos d]; exact ih
    · rw [if_neg d]
      refine Or.inr ?_
      unfold rng at *
      have e : (h + nI k).toInt = h.toInt + k := by rw [add_ti (by omega) (by omega), t]
      rw [mul_ti (by rw [e]; simp; omega) (by rw [e]; simp; omega), e]
      simp
      omega
theorem lau_rng (mm : I_misc μ) (bb : BOA B b μ) (d : gi μ 39 b ≤ gi μ 27 0) (q : ¬ lau μ b = -9) : rng (lau μ b) 0 202910 := by
  have m := mm.2.2.2.1
  have g := mm.2.2.2.2.2
  have r60 := rdy60 mm bb
  have er : rdy μ b = gi μ 27 0 + gi μ 27 6 := by unfold rdy; rw [if_pos d]
  have et : (rdy μ b).toInt = (gi μ 27 0).toInt + (gi μ 27 6).toInt := by rw [er]; unfold rng at m g; exact add_ti (by omega) (by omega)
  have e60 : (rdy μ b / 60).toInt = (rdy μ b).toInt / 60 := by unfold rng at m g; rw [div_ti (by omega) (by decide)]; rfl
  unfold lau at q ⊢
  by_cases z : opn (gi μ 36) (gi μ 29) (gi μ 37 b) (rdy μ b / 60) = 0
  · rw [if_pos z] at q ⊢
    have s := (srch_rng (opn (gi μ 36) (gi μ 29) (gi μ 37 b)) r60 48 1 (by omega)).resolve_left q
    unfold rng at *
    omega
  · rw [if_neg z]
    unfold rng at *
    omega
theorem wayv_rng (mi : I_miles μ) (bb : BOA B b μ) (cc : CAL C c μ) : rng (wayv μ b c) 0 360 := by
  have ia := at_in bb
  have m := (mi _ ia.2).2
  have c1 := cc.2.2.2.2.2.1
  have c2 := cc.2.2.2.2.2.2.1
  unfold wayv
  generalize gi μ 28 (gi μ 37 b).toNatClampNeg = x at m
  unfold rng at *
  have e : (x - gi μ 41 c).toInt = x.toInt - (gi μ 41 c).toInt := sub_ti (by omega) (by omega)
  have a := ab_ti (x := x - gi μ 41 c) (by omega)
  rw [e] at a
  rw [add_ti (by rw [a]; split <;> omega) (by rw [a]; split <;> omega), a]
  split <;> omega
theorem cu_rng {a v : Int32} (ha : rng a 0 21600) (h : ¬ v ≤ 0) (h30 : v.toInt ≤ 30) : rng (cu a v) 0 21630 := by
  have v1 : 1 ≤ v.toInt := by rw [i32_le] at h; simp at h; omega
  unfold rng at *
  have e1 : (a + v).toInt = a.toInt + v.toInt := add_ti (by omega) (by omega)
  have e2 : (a + v - 1).toInt = a.toInt + v.toInt - 1 := by rw [sub_ti (by rw [e1]; simp; omega) (by rw [e1]; simp; omega), e1]; rfl
  unfold cu
  rw [div_ti (by omega) (by omega), e2]
  have n0 : 0 ≤ a.toInt + v.toInt - 1 := by omega
  have := Int.ediv_le_self v.toInt n0
  exact ⟨Int.ediv_nonneg n0 (by omega), by omega⟩
theorem way60 {w : Int32} (h : rng w 0 360) : rng (w * 60) 0 21600 := by
  unfold rng at *
  rw [mul_ti (by simp; omega) (by simp; omega)]
  simp
  omega
theorem spd_rng (bb : BOA B b μ) (cc : CAL C c μ) : rng (spd μ b c) 0 30 := bb.2.2.2.2.2.2.2.2.2.2.2 _ (sea_in cc).2
def sbk (t v : Int32) : Int32 := if t = 0 then v else mx 1 (v / 2)
theorem sbk_ok {t v : Int32} (h : ¬ v ≤ 0) (h30 : v.toInt ≤ 30) : ¬ sbk t v ≤ 0 ∧ (sbk t v).toInt ≤ 30 := by
  have v1 : 1 ≤ v.toInt := by rw [i32_le] at h; simp at h; omega
  unfold sbk
  by_cases z : t = 0
  · rw [if_pos z]; exact ⟨h, h30⟩
  · rw [if_neg z]
    have e : (v / 2).toInt = v.toInt / 2 := div_ti (by omega) (by decide)
    unfold mx
    by_cases q : 1 ≤ v / 2
    · rw [if_pos q]
      rw [i32_le, e] at q
      rw [i32_le, e]
      simp at q ⊢
      omega
    · rw [if_neg q]; decide
theorem U_made {μ : Mem} (x y l r h : Int32) : f_U_init (μ.1 + 4) x y l r h (nw μ (7, 0)) = some (.inl 0, si (si (si (si (si (nw μ (7, 0)) (μ.1 + 4) 0 x) (μ.1 + 4) 1 y) (μ.1 + 4) 2 l) (μ.1 + 4) 3 r) (μ.1 + 4) 4 h) := by
  have s : shp (nw μ (7, 0)) (μ.1 + 4) = (7, 0) := by rw [shp_nw, if_pos rfl]
  unfold f_U_init
  rw [cN_at (by omega), pI_at s, pI_at (show shp (si (nw μ (7, 0)) _ _ _) _ = (7, 0) from s), pI_at (show shp (si (si (nw μ (7, 0)) _ _ _) _ _ _) _ = (7, 0) from s), pI_at (show shp (si (si (si (nw μ (7, 0)) _ _ _) _ _ _) _ _ _) _ = (7, 0) from s), pI_at (show shp (si (si (si (si (nw μ (7, 0)) _ _ _) _ _ _) _ _ _) _ _ _) _ = (7, 0) from s)]
end SE
theorem send_in {μ ν : Mem} {B U : Nat → Nat} {b c nb n : Nat} {L R H : Int32} (i : Inv μ) (hnb : nb ≤ 8) (g1 : gi μ 27 2 = nI nb) (g2 : LST 8 B nb μ) (g3 : ∀ b, b < nb → BOA B b μ) (g4 : ∀ p q, p < q → q < nb → B p + 2 ≤ B q) (g5 : ∀ i, 5 * nb ≤ i → i < 40 → gi μ 40 i = 0) (g6 : ∀ b, nb ≤ b → b < 8 → gi μ 39 b = 0) (hb : b < nb)
    (hn : n < 40) (u1 : gi μ 27 4 = nI n) (u2 : LST 10 U n μ) (u3 : ∀ u, u < n → LAU U u μ) (u4 : ∀ p q, p < q → q < n → U p + 1 ≤ U q) (hH : rng H 0 300000)
    {ξ : Mem} (x1 : ξ.1 = μ.1 + 1) (xs : shp ξ (μ.1 + 4) = (7, 0)) (y : gi ξ (μ.1 + 4) 0 = nI b ∧ gi ξ (μ.1 + 4) 1 = nI c ∧ gi ξ (μ.1 + 4) 2 = L ∧ gi ξ (μ.1 + 4) 3 = R ∧ gi ξ (μ.1 + 4) 4 = H)
    (a2 : Gw (SH 10 (ξ.1 + 4)) (TA 10 (gr μ 10 1) (ξ.1 + 4)) ξ ν) (k2 : Gw (SH 10 (μ.1 + 4)) (TA 10 (gr μ 10 1) (μ.1 + 4)) μ ν) (a3 : LST 10 (fun p => if p = n then μ.1 + 4 else U p) (n + 1) ν) (a4 : gr ν 10 1 = gr μ 10 1 ∧ 59 ≤ gr μ 10 1 ∨ μ.1 + 4 ≤ gr ν 10 1) :
    Inv (si (si (si (si (si (si (si (si ν (B b) 3 H) 44 n (nI b)) 45 n (nI c)) 46 n L) 47 n R) 27 4 (nI (n + 1))) 48 n H) 39 b H) := by
  have m55 := i.1.1
  have bb := g3 b hb
  have b59 := bb.1
  have bbd := bd bb.2.1 (by decide) (by omega)
  have bbd2 := bd bb.2.2.1 (by decide) (by omega)
  obtain ⟨P, i8⟩ := i.2.2.2.2.2.2.2.1
  obtain ⟨C', i10⟩ := i.2.2.2.2.2.2.2.2.2.1
  have frM : Fr (fun h k => (44 ≤ h ∧ h ≤ 48 ∧ k = n) ∨ (h = 27 ∧ k = 4) ∨ (h = 39 ∧ k = b) ∨ (h = B b ∧ k = 3)) ν (si (si (si (si (si (si (si (si ν (B b) 3 H) 44 n (nI b)) 45 n (nI c)) 46 n L) 47 n R) 27 4 (nI (n + 1))) 48 n H) 39 b H) := ((Fr.si (Or.inr (Or.inr (Or.inr ⟨rfl, rfl⟩)))).tr (Fr.si (Or.inl ⟨by decide, by decide, rfl⟩))).tr (((Fr.si (Or.inl ⟨by decide, by decide, rfl⟩)).tr (Fr.si (Or.inl ⟨by decide, by decide, rfl⟩))).tr ((Fr.si (Or.inl ⟨by decide, by decide, rfl⟩)).tr ((Fr.si (Or.inr (Or.inl ⟨rfl, rfl⟩))).tr ((Fr.si (Or.inl ⟨by decide, by decide, rfl⟩)).tr (Fr.si (Or.inr (Or.inr (Or.inl ⟨rfl, rfl⟩))))))))
  have k3 : Gw (fun h k => SA 10 44 48 n (μ.1 + 4) h k ∨ (h = 39 ∧ k = b) ∨ (h = B b ∧ k = 3)) (TA 10 (gr μ 10 1) (μ.1 + 4)) μ (si (si (si (si (si (si (si (si ν (B b) 3 H) 44 n (nI b)) 45 n (nI c)) 46 n L) 47 n R) 27 4 (nI (n + 1))) 48 n H) 39 b H) := (k2.up (fun h k q => by omega) (fun h k q => q)).tr (Gwfr (frM.up (fun h k q => by omega)))
  have z44 : gi (si (si (si (si (si (si (si (si ν (B b) 3 H) 44 n (nI b)) 45 n (nI c)) 46 n L) 47 n R) 27 4 (nI (n + 1))) 48 n H) 39 b H) 44 n = nI b := by rw [gi_ne (by omega), gi_ne (by omega), gi_ne (by omega), gi_ne (by omega), gi_ne (by omega), gi_ne (by omega), gi_eq]
  have z45 : gi (si (si (si (si (si (si (si (si ν (B b) 3 H) 44 n (nI b)) 45 n (nI c)) 46 n L) 47 n R) 27 4 (nI (n + 1))) 48 n H) 39 b H) 45 n = nI c := by rw [gi_ne (by omega), gi_ne (by omega), gi_ne (by omega), gi_ne (by omega), gi_ne (by omega), gi_eq]
  have z46 : gi (si (si (si (si (si (si (si (si ν (B b) 3 H) 44 n (nI b)) 45 n (nI c)) 46 n L) 47 n R) 27 4 (nI (n + 1))) 48 n H) 39 b H) 46 n = L := by rw [gi_ne (by omega), gi_ne (by omega), gi_ne (by omega), gi_ne (by omega), gi_eq]
  have z47 : gi (si (si (si (si (si (si (si (si ν (B b) 3 H) 44 n (nI b)) 45 n (nI c)) 46 n L) 47 n R) 27 4 (nI (n + 1))) 48 n H) 39 b H) 47 n = R := by rw [gi_ne (by omega), gi_ne (by omega), gi_ne (by omega), gi_eq]
  have z27 : gi (si (si (si (si (si (si (si (si ν (B b) 3 H) 44 n (nI b)) 45 n (nI c)) 46 n L) 47 n R) 27 4 (nI (n + 1))) 48 n H) 39 b H) 27 4 = nI (n + 1) := by rw [gi_ne (by omega), gi_ne (by omega), gi_eq]
  have z48 : gi (si (si (si (si (si (si (si (si ν (B b) 3 H) 44 n (nI b)) 45 n (nI c)) 46 n L) 47 n R) 27 4 (nI (n + 1))) 48 n H) 39 b H) 48 n = H := by rw [gi_ne (by omega), gi_eq]
  have z39 : gi (si (si (si (si (si (si (si (si ν (B b) 3 H) 44 n (nI b)) 45 n (nI c)) 46 n L) 47 n R) 27 4 (nI (n + 1))) 48 n H) 39 b H) 39 b = H := by rw [gi_eq]
  have zB : gi (si (si (si (si (si (si (si (si ν (B b) 3 H) 44 n (nI b)) 45 n (nI c)) 46 n L) 47 n R) 27 4 (nI (n + 1))) 48 n H) 39 b H) (B b) 3 = H := by rw [gi_ne (by omega), gi_ne (by omega), gi_ne (by omega), gi_ne (by omega), gi_ne (by omega), gi_ne (by omega), gi_ne (by omega), gi_eq]
  have gap : ∀ q, q < nb → q ≠ b → B q + 2 ≤ B b ∨ B b + 2 ≤ B q := fun q hq e => by
    rcases gap2 g4 hq hb (fun z => e z.symm) with h | h
    · exact Or.inl h
    · exact Or.inr h
  generalize si (si (si (si (si (si (si (si ν (B b) 3 H) 44 n (nI b)) 45 n (nI c)) 46 n L) 47 n R) 27 4 (nI (n + 1))) 48 n H) 39 b H = ζ at frM k3 z44 z45 z46 z47 z27 z48 z39 zB ⊢
  have er : gr ζ 10 1 = gr ν 10 1 := frM.1.2.2 _ _
  refine Inv.add i (l := 10) (by decide) (by decide) k3 (fun h k q => by omega) (by rw [er]; exact a4) ⟨P, I_ppl.gw i (by decide) (by decide) k3 (by decide) (by omega) (by omega) (fun h j q1 q2 => by omega) (fun h j q1 q2 => ?_) i8⟩ ⟨B, nb, hnb, ?_, ?_, ?_, g4, ?_, ?_⟩ ⟨C', I_cls.gw i (by decide) (by decide) k3 (by decide) (by omega) (by omega) (fun h j q1 q2 => by omega) (fun h j q1 q2 => ?_) i10⟩ ⟨fun p => if p = n then μ.1 + 4 else U p, n + 1, by omega, z27, a3.fr frM (by omega), ?_, ?_⟩
  · by_cases e : h = B b
    · rw [e]; exact Or.inr bb.2.1
    · exact Or.inl (by omega)
  · rw [k3.2.2.1 _ _ (by omega)]; exact g1
  · have L2 : LST 8 B nb (mixg μ ζ) := g2.fr k3.mix (by omega)
    exact L2.mix k3 (by omega) (fun g k => TA_no2 i (by decide) (by decide) (by decide) (by decide) (by decide) g k)
  · intro q hq
    have k := g3 q hq
    have k0 := k.1
    have bq := bd k.2.1 (by decide) (by omega)
    have bq1 := bd k.2.2.1 (by decide) (by omega)
    have kr : ¬ TA 10 (gr μ 10 1) (μ.1 + 4) (B q) 1 := TA_no i (by decide) (by decide) k0 k.2.1 (by decide) (by decide)
    unfold BOA at k ⊢
    obtain ⟨k1, k2, k3', k4, k5, k6, k7, k8, k9, k10, k11, k12⟩ := k
    rw [k3.2.1 _ bq.2, k3.2.1 _ bq1.2, k3.2.2.2 _ _ kr]
    by_cases e : q = b
    · subst e
      rw [k3.2.2.1 (B q) 0 (by omega), k3.2.2.1 (B q) 2 (by omega), k3.2.2.1 38 _ (by omega), k3.2.2.1 37 _ (by omega), z39, zB]
      exact ⟨k1, k2, k3', k4, k5, k6, rfl, fun j hj => by rw [k3.2.2.1 _ _ (by omega), k3.2.2.1 _ _ (by omega)]; exact k8 j hj, k9, k10, hH, fun j hj => by rw [k3.2.2.1 _ _ (by omega)]; exact k12 j hj⟩
    · have gg := gap q hq e
      rw [k3.2.2.1 (B q) 0 (by omega), k3.2.2.1 (B q) 2 (by omega), k3.2.2.1 (B q) 3 (by omega), k3.2.2.1 38 _ (by omega), k3.2.2.1 37 _ (by omega), k3.2.2.1 39 _ (by omega)]
      exact ⟨k1, k2, k3', k4, k5, k6, k7, fun j hj => by rw [k3.2.2.1 _ _ (by omega), k3.2.2.1 _ _ (by omega)]; exact k8 j hj, k9, k10, k11, fun j hj => by rw [k3.2.2.1 _ _ (by omega)]; exact k12 j hj⟩
  · intro k k1 k2
    rw [k3.2.2.1 _ _ (by omega)]
    exact g5 k (by omega) k2
  · intro q q1 q2
    rw [k3.2.2.1 _ _ (by omega)]
    exact g6 q q1 q2
  · by_cases e : h = B b
    · rw [e]; exact Or.inr bb.2.1
    · exact Or.inl (by omega)
  · intro p hp
    unfold LAU
    simp only []
    by_cases e : p = n
    · subst e
      have w : ∀ k, gi ζ (μ.1 + 4) k = gi ξ (μ.1 + 4) k := fun k => by
        rw [frM.2 _ _ (by omega)]
        exact a2.2.2.1 _ _ (by omega)
      rw [if_pos rfl, z44, z45, z46, z47, z48, w, w, w, w, w]
      exact ⟨by omega, ((frM.1.2.1 _).trans (a2.2.1 _ (by omega))).trans xs, y⟩
    · rw [if_neg e]
      have k := u3 p (by omega)
      have k0 := k.1
      have bq := bd k.2.1 (by decide) (by omega)
      have ne : U p ≠ B b := fun z => by have := k.2.1; rw [z, bb.2.1] at this; simp at this
      unfold LAU at k
      rw [k3.2.1 _ bq.2, k3.2.2.1 _ _ (by omega), k3.2.2.1 _ _ (by omega), k3.2.2.1 _ _ (by omega), k3.2.2.1 _ _ (by omega), k3.2.2.1 _ _ (by omega), k3.2.2.1 _ _ (by omega), k3.2.2.1 _ _ (by omega), k3.2.2.1 _ _ (by omega), k3.2.2.1 _ _ (by omega), k3.2.2.1 _ _ (by omega)]
      exact k
  · intro p q hpq hq
    simp only []
    have k := u3 p (by omega)
    have bq := bd k.2.1 (by decide) (by have := k.1; omega)
    rw [if_neg (show ¬ p = n by omega)]
    by_cases e : q = n
    · rw [if_pos e]; omega
    · rw [if_neg e]; exact u4 p q hpq (by omega)
theorem send_M {W : Mem} {b c n : Nat} {h R sb H L : Int32} (sw : ST W) (hb : b < 8) (hc : c < 20) (hn : n < 40) (u1 : gi W 27 4 = nI n) (ia : inb (gi W 37 b) 6) (r60 : rng (rdy W b / 60) 0 10000) (hs : ¬ sb ≤ 0) (hHe : R + h + cu (wayv W b c * 60) sb = H) (hL : lau W b = L) : b_M_send_117 27 (nI b) (nI c) h R sb W = some (.inl H, si (si (si (si (si (si (si W 44 n (nI b)) 45 n (nI c)) 46 n L) 47 n R) 27 4 (nI (n + 1))) 48 n H) 39 b H) := by
  have hin : inb (nI n) 40 := inb_nI (by omega) (by omega)
  have hib : inb (nI b) 8 := inb_nI (by omega) (by omega)
  have cn := cl_nI (p := n) (by omega)
  have cb := cl_nI (p := b) (by omega)
  have s1 : ST (si W 44 n (nI b)) := sw
  have s2 : ST (si (si W 44 n (nI b)) 45 n (nI c)) := sw
  have s3 : ST (si (si (si W 44 n (nI b)) 45 n (nI c)) 46 n L) := sw
  have s4 : ST (si (si (si (si W 44 n (nI b)) 45 n (nI c)) 46 n L) 47 n R) := sw
  have s5 : ST (si (si (si (si (si W 44 n (nI b)) 45 n (nI c)) 46 n L) 47 n R) 27 4 (nI (n + 1))) := sw
  have s6 : ST (si (si (si (si (si (si W 44 n (nI b)) 45 n (nI c)) 46 n L) 47 n R) 27 4 (nI (n + 1))) 48 n H) := sw
  have e2 : ∀ h, 27 ≤ h → h ≤ 43 → gi (si (si W 44 n (nI b)) 45 n (nI c)) h = gi W h := fun h q1 q2 => funext fun j => by rw [gi_ne (by omega), gi_ne (by omega)]
  have hl := M_launch2 (μ := si (si W 44 n (nI b)) 45 n (nI c)) (b := b) s2 (by rw [e2 37 (by decide) (by decide)]; exact ia) (by rw [rdy_eq e2]; exact r60) hb
  rw [lau_eq e2, hL] at hl
  unfold b_M_send_117
  rw [e_cV27 sw, M_way sw hb hc ia, e_bI, Int32.mul_comm 60, M_upv hs, e_bI, e_nm, hHe, e_gR27_23 sw, e_gI27 sw, u1, e_aS44 sw hin, cn, e_gR27_24 s1, e_gI27 s1, show gi (si W 44 n (nI b)) 27 4 = nI n from u1, e_aS45 s1 hin, cn, e_gR27_25 s2, e_gI27 s2, show gi (si (si W 44 n (nI b)) 45 n (nI c)) 27 4 = nI n from u1, e_cV27 s2, hl, e_bI, e_aS46 s2 hin, cn, e_gR27_26 s3, e_gI27 s3, show gi (si (si (si W 44 n (nI b)) 45 n (nI c)) 46 n L) 27 4 = nI n from u1, e_aS47 s3 hin, cn, e_gR27_27 s4, e_gI27 s4, show gi (si (si (si (si W 44 n (nI b)) 45 n (nI c)) 46 n L) 47 n R) 27 4 = nI n from u1, e_pI27 s4, nI_1, e_aS48 s5 hin, cn, e_gR27_18 s6, e_aS39 s6 hib, cb]
theorem op_send {μ : Mem} (i : Inv μ) (x y h t : Int32) : Opx (f_H_send 4 x y h t) (f_M_send 27 x y h t) μ := by
  have st := i.1
  have stA : ∀ h k x, ST (si μ h k x) := fun _ _ _ => st
  have stB : ∀ h k x h' k' x', ST (si (si μ h k x) h' k' x') := fun _ _ _ _ _ _ => st
  obtain ⟨B, nb, hnb, g1, g2, g3, g4, g5, g6⟩ := i.2.2.2.2.2.2.2.2.1
  obtain ⟨C, nc, hnc, c1, c2, c3, c4⟩ := i.2.2.2.2.2.2.2.2.2.1
  obtain ⟨U, n, hn, u1, u2, u3, u4⟩ := i.2.2.2.2.2.2.2.2.2.2.1
  have m55 := st.1
  rcases ix (x := x) (n := nb) (by omega) with hx | ⟨b, hb, rfl⟩
  · have m1 : f_M_isBoat 27 x (si μ 26 1 (gi μ 26 1 + 1)) = some (.inl 0, si μ 26 1 (gi μ 26 1 + 1)) := MisBoat_f (stA _ _ _) g1 hx
    obtain ⟨r, hr⟩ := call_any st hnc c2 c3 y
    exact Opx.ref (c := -1) i 1 (by decide) (by simp only [f_H_send, rf_1, b_H_send_24, HboatAt_f st g2 hx, hr, e_nm, e_bI, e_bR, e_bV, e_gI4, e_pI4, e_cV4, e_gR4_0, e_gR4_1, e_gR4_2, e_gR4_3, e_gR4_4, e_gR4_5, e_gR4_6, e_gR4_7, e_gR4_8, e_gR4_9, e_gR4_10, e_gR4_11, e_aI5, e_aS5, e_aI6, e_aS6, e_gI7, e_pI7, e_cV7, e_gR7, e_gI8, e_pI8, e_cV8, e_gR8, e_gI9, e_pI9, e_cV9, e_gR9, e_gI10, e_pI10, e_cV10, e_gR10, e_gI11, e_pI11, e_cV11, e_gR11_0, e_aI12, e_aS12, e_gI13, e_pI13, e_cV13, e_gR13_0, e_aI14, e_aS14, e_gI15, e_pI15, e_cV15, e_gI16, e_pI16, e_cV16, e_gR16_0, e_gR16_3, e_gR16_4, e_gR16_5, e_gR16_6, e_aI17, e_aS17, e_aI18, e_aS18, e_aI19, e_aS19, e_zI20, e_zS20, e_aI21, e_aS21, e_gI22, e_pI22, e_cV22, e_gR22_0, e_gR22_1, e_gR22_3, e_aI23, e_aS23, e_aI24, e_aS24, e_aI25, e_aS25, e_aI26, e_aS26, e_gI27, e_pI27, e_cV27, e_gR27_7, e_gR27_8, e_gR27_9, e_gR27_10, e_gR27_11, e_gR27_12, e_gR27_13, e_gR27_14, e_gR27_15, e_gR27_16, e_gR27_17, e_gR27_18, e_gR27_19, e_gR27_20, e_gR27_21, e_gR27_22, e_gR27_23, e_gR27_24, e_gR27_25, e_gR27_26, e_gR27_27, e_gR27_28, e_gR27_29, e_gR27_30, e_gR27_31, e_gR27_32, e_gR27_33, e_gR27_34, e_gR27_35, e_gR27_36, e_gR27_37, e_aI28, e_aS28, e_aI29, e_aS29, e_aI30, e_aS30, e_aI31, e_aS31, e_aI32, e_aS32, e_aI33, e_aS33, e_aI34, e_aS34, e_aI35, e_aS35, e_aI36, e_aS36, e_aI37, e_aS37, e_aI38, e_aS38, e_aI39, e_aS39, e_aI40, e_aS40, e_aI41, e_aS41, e_aI42, e_aS42, e_aI43, e_aS43, e_aI44, e_aS44, e_aI45, e_aS45, e_aI46, e_aS46, e_aI47, e_aS47, e_aI48, e_aS48, e_aI49, e_aS49, e_aI50, e_aS50, e_aI51, e_aS51, e_aI52, e_aS52, e_aI53, e_aS53, e_aI54, e_aS54, e_aI55, e_aS55, e_aI56, e_aS56, e_aI57, e_aS57, e_aI58, e_aS58, st, stA, stB, inb, and_self, if_true, if_false, i32_00, i32_10, i32_m40, i32_m60]) (by simp only [f_M_send, no_1, b_M_send_16, m1, e_nm, e_bI, e_bR, e_bV, e_gI4, e_pI4, e_cV4, e_gR4_0, e_gR4_1, e_gR4_2, e_gR4_3, e_gR4_4, e_gR4_5, e_gR4_6, e_gR4_7, e_gR4_8, e_gR4_9, e_gR4_10, e_gR4_11, e_aI5, e_aS5, e_aI6, e_aS6, e_gI7, e_pI7, e_cV7, e_gR7, e_gI8, e_pI8, e_cV8, e_gR8, e_gI9, e_pI9, e_cV9, e_gR9, e_gI10, e_pI10, e_cV10, e_gR10, e_gI11, e_pI11, e_cV11, e_gR11_0, e_aI12, e_aS12, e_gI13, e_pI13, e_cV13, e_gR13_0, e_aI14, e_aS14, e_gI15, e_pI15, e_cV15, e_gI16, e_pI16, e_cV16, e_gR16_0, e_gR16_3, e_gR16_4, e_gR16_5, e_gR16_6, e_aI17, e_aS17, e_aI18, e_aS18, e_aI19, e_aS19, e_zI20, e_zS20, e_aI21, e_aS21, e_gI22, e_pI22, e_cV22, e_gR22_0, e_gR22_1, e_gR22_3, e_aI23, e_aS23, e_aI24, e_aS24, e_aI25, e_aS25, e_aI26, e_aS26, e_gI27, e_pI27, e_cV27, e_gR27_7, e_gR27_8, e_gR27_9, e_gR27_10, e_gR27_11, e_gR27_12, e_gR27_13, e_gR27_14, e_gR27_15, e_gR27_16, e_gR27_17, e_gR27_18, e_gR27_19, e_gR27_20, e_gR27_21, e_gR27_22, e_gR27_23, e_gR27_24, e_gR27_25, e_gR27_26, e_gR27_27, e_gR27_28, e_gR27_29, e_gR27_30, e_gR27_31, e_gR27_32, e_gR27_33, e_gR27_34, e_gR27_35, e_gR27_36, e_gR27_37, e_aI28, e_aS28, e_aI29, e_aS29, e_aI30, e_aS30, e_aI31, e_aS31, e_aI32, e_aS32, e_aI33, e_aS33, e_aI34, e_aS34, e_aI35, e_aS35, e_aI36, e_aS36, e_aI37, e_aS37, e_aI38, e_aS38, e_aI39, e_aS39, e_aI40, e_aS40, e_aI41, e_aS41, e_aI42, e_aS42, e_aI43, e_aS43, e_aI44, e_aS44, e_aI45, e_aS45, e_aI46, e_aS46, e_aI47, e_aS47, e_aI48, e_aS48, e_aI49, e_aS49, e_aI50, e_aS50, e_aI51, e_aS51, e_aI52, e_aS52, e_aI53, e_aS53, e_aI54, e_aS54, e_aI55, e_aS55, e_aI56, e_aS56, e_aI57, e_aS57, e_aI58, e_aS58, st, stA, stB, inb, and_self, if_true, if_false, i32_00, i32_10, i32_m40, i32_m60])
  have bb := g3 b hb
  have b59 := bb.1
  have hB : ¬ B b = 0 := by omega
  have hH := HboatAt_t st g2 (by omega) hb bb.2.1
  have mb : ∀ k, f_M_isBoat 27 (nI b) (si μ 26 k (gi μ 26 k + 1)) = some (.inl 1, si μ 26 k (gi μ 26 k + 1)) := fun k => MisBoat_t (stA _ _ _) g1 (by omega) hb
  rcases ix (x := y) (n := nc) (by omega) with hy | ⟨c, hc, rfl⟩
  · have m1 : f_M_isCall 27 y (si μ 26 1 (gi μ 26 1 + 1)) = some (.inl 0, si μ 26 1 (gi μ 26 1 + 1)) := MisCall_f (stA _ _ _) c1 hy
    exact Opx.ref (c := -1) i 1 (by decide) (by simp only [f_H_send, rf_1, b_H_send_24, hH, hB, HcallAt_f st c2 hy, e_nm, e_bI, e_bR, e_bV, e_gI4, e_pI4, e_cV4, e_gR4_0, e_gR4_1, e_gR4_2, e_gR4_3, e_gR4_4, e_gR4_5, e_gR4_6, e_gR4_7, e_gR4_8, e_gR4_9, e_gR4_10, e_gR4_11, e_aI5, e_aS5, e_aI6, e_aS6, e_gI7, e_pI7, e_cV7, e_gR7, e_gI8, e_pI8, e_cV8, e_gR8, e_gI9, e_pI9, e_cV9, e_gR9, e_gI10, e_pI10, e_cV10, e_gR10, e_gI11, e_pI11, e_cV11, e_gR11_0, e_aI12, e_aS12, e_gI13, e_pI13, e_cV13, e_gR13_0, e_aI14, e_aS14, e_gI15, e_pI15, e_cV15, e_gI16, e_pI16, e_cV16, e_gR16_0, e_gR16_3, e_gR16_4, e_gR16_5, e_gR16_6, e_aI17, e_aS17, e_aI18, e_aS18, e_aI19, e_aS19, e_zI20, e_zS20, e_aI21, e_aS21, e_gI22, e_pI22, e_cV22, e_gR22_0, e_gR22_1, e_gR22_3, e_aI23, e_aS23, e_aI24, e_aS24, e_aI25, e_aS25, e_aI26, e_aS26, e_gI27, e_pI27, e_cV27, e_gR27_7, e_gR27_8, e_gR27_9, e_gR27_10, e_gR27_11, e_gR27_12, e_gR27_13, e_gR27_14, e_gR27_15, e_gR27_16, e_gR27_17, e_gR27_18, e_gR27_19, e_gR27_20, e_gR27_21, e_gR27_22, e_gR27_23, e_gR27_24, e_gR27_25, e_gR27_26, e_gR27_27, e_gR27_28, e_gR27_29, e_gR27_30, e_gR27_31, e_gR27_32, e_gR27_33, e_gR27_34, e_gR27_35, e_gR27_36, e_gR27_37, e_aI28, e_aS28, e_aI29, e_aS29, e_aI30, e_aS30, e_aI31, e_aS31, e_aI32, e_aS32, e_aI33, e_aS33, e_aI34, e_aS34, e_aI35, e_aS35, e_aI36, e_aS36, e_aI37, e_aS37, e_aI38, e_aS38, e_aI39, e_aS39, e_aI40, e_aS40, e_aI41, e_aS41, e_aI42, e_aS42, e_aI43, e_aS43, e_aI44, e_aS44, e_aI45, e_aS45, e_aI46, e_aS46, e_aI47, e_aS47, e_aI48, e_aS48, e_aI49, e_aS49, e_aI50, e_aS50, e_aI51, e_aS51, e_aI52, e_aS52, e_aI53, e_aS53, e_aI54, e_aS54, e_aI55, e_aS55, e_aI56, e_aS56, e_aI57, e_aS57, e_aI58, e_aS58, st, stA, stB, inb, and_self, if_true, if_false, i32_00, i32_10, i32_m40, i32_m60]) (by simp only [f_M_send, no_1, b_M_send_16, mb 1, m1, e_nm, e_bI, e_bR, e_bV, e_gI4, e_pI4, e_cV4, e_gR4_0, e_gR4_1, e_gR4_2, e_gR4_3, e_gR4_4, e_gR4_5, e_gR4_6, e_gR4_7, e_gR4_8, e_gR4_9, e_gR4_10, e_gR4_11, e_aI5, e_aS5, e_aI6, e_aS6, e_gI7, e_pI7, e_cV7, e_gR7, e_gI8, e_pI8, e_cV8, e_gR8, e_gI9, e_pI9, e_cV9, e_gR9, e_gI10, e_pI10, e_cV10, e_gR10, e_gI11, e_pI11, e_cV11, e_gR11_0, e_aI12, e_aS12, e_gI13, e_pI13, e_cV13, e_gR13_0, e_aI14, e_aS14, e_gI15, e_pI15, e_cV15, e_gI16, e_pI16, e_cV16, e_gR16_0, e_gR16_3, e_gR16_4, e_gR16_5, e_gR16_6, e_aI17, e_aS17, e_aI18, e_aS18, e_aI19, e_aS19, e_zI20, e_zS20, e_aI21, e_aS21, e_gI22, e_pI22, e_cV22, e_gR22_0, e_gR22_1, e_gR22_3, e_aI23, e_aS23, e_aI24, e_aS24, e_aI25, e_aS25, e_aI26, e_aS26, e_gI27, e_pI27, e_cV27, e_gR27_7, e_gR27_8, e_gR27_9, e_gR27_10, e_gR27_11, e_gR27_12, e_gR27_13, e_gR27_14, e_gR27_15, e_gR27_16, e_gR27_17, e_gR27_18, e_gR27_19, e_gR27_20, e_gR27_21, e_gR27_22, e_gR27_23, e_gR27_24, e_gR27_25, e_gR27_26, e_gR27_27, e_gR27_28, e_gR27_29, e_gR27_30, e_gR27_31, e_gR27_32, e_gR27_33, e_gR27_34, e_gR27_35, e_gR27_36, e_gR27_37, e_aI28, e_aS28, e_aI29, e_aS29, e_aI30, e_aS30, e_aI31, e_aS31, e_aI32, e_aS32, e_aI33, e_aS33, e_aI34, e_aS34, e_aI35, e_aS35, e_aI36, e_aS36, e_aI37, e_aS37, e_aI38, e_aS38, e_aI39, e_aS39, e_aI40, e_aS40, e_aI41, e_aS41, e_aI42, e_aS42, e_aI43, e_aS43, e_aI44, e_aS44, e_aI45, e_aS45, e_aI46, e_aS46, e_aI47, e_aS47, e_aI48, e_aS48, e_aI49, e_aS49, e_aI50, e_aS50, e_aI51, e_aS51, e_aI52, e_aS52, e_aI53, e_aS53, e_aI54, e_aS54, e_aI55, e_aS55, e_aI56, e_aS56, e_aI57, e_aS57, e_aI58, e_aS58, st, stA, stB, inb, and_self, if_true, if_false, i32_00, i32_10, i32_m40, i32_m60])
  have cc := c3 c hc
  have c59 := cc.1
  have hC : ¬ C c = 0 := by omega
  have hK := HcallAt_t st c2 (by omega) hc cc.2.1
  have mc : ∀ k, f_M_isCall 27 (nI c) (si μ 26 k (gi μ 26 k + 1)) = some (.inl 1, si μ 26 k (gi μ 26 k + 1)) := fun k => MisCall_t (stA _ _ _) c1 (by omega) hc
  have ia := at_in bb
  have is := sea_in cc
  have mm := i.2.1
  have mi := i.2.2.1
  have ne := i.2.2.2.1
  have it := i.2.2.2.2.2.1
  have r60 := rdy60 mm bb
  have hR := H_reach st mm mi it ne bb cc
  have em := mm.1
  by_cases r9 : rea μ b c = -9
  · refine Opx.ref (c := -3) i 3 (by decide) ?_ ?_
    · unfold f_H_send
      rw [e_cV4 st, hH, e_bR, e_cV4 st, hK, e_bR, if_neg hB, if_neg hC, e_cV4 st, hR, e_bI, if_pos r9, b_H_send_59, e_cV4 st, rf_3 st, e_bI]
    · have s1 := stA 26 3 (gi μ 26 3 + 1)
      have ev : ∀ h, 27 ≤ h → h ≤ 43 → gi (si μ 26 3 (gi μ 26 3 + 1)) h = gi μ h := fun h q1 q2 => funext fun j => gi_ne (by omega)
      have r1 := M_reach2 (b := b) (c := c) s1 ia is (by rw [rdy_eq ev]; exact r60) (by omega) (by omega)
      rw [rea_eq ev] at r1
      unfold f_M_send
      rw [e_cV27 s1, mb 3, e_bI, if_neg (by decide), e_cV27 s1, mc 3, e_bI, if_neg (by decide), e_cV27 s1, r1, e_bI, if_pos r9, b_M_send_45, e_cV27 s1, no_3 s1, e_bI]
  by_cases d : gi μ 39 b ≤ gi μ 27 0
  · by_cases h0 : 0 ≤ h
    · by_cases h6 : 600 < h
      · refine Opx.ref (c := -6) i 6 (by decide) ?_ ?_
        · unfold f_H_send
          rw [e_cV4 st, hH, e_bR, e_cV4 st, hK, e_bR, if_neg hB, if_neg hC, e_cV4 st, hR, e_bI, if_neg r9, e_gI4 st, em, cV_at bb.2.1, B_isAway bb, e_bI, if_pos d, if_pos rfl, if_pos h0, if_pos h6, b_H_send_96, e_cV4 st, rf_6 st, e_bI]
        · have s1 := stA 26 6 (gi μ 26 6 + 1)
          have ev : ∀ h, 27 ≤ h → h ≤ 43 → gi (si μ 26 6 (gi μ 26 6 + 1)) h = gi μ h := fun h q1 q2 => funext fun j => gi_ne (by omega)
          have r1 := M_reach2 (b := b) (c := c) s1 ia is (by rw [rdy_eq ev]; exact r60) (by omega) (by omega)
          rw [rea_eq ev] at r1
          unfold f_M_send
          rw [e_cV27 s1, mb 6, e_bI, if_neg (by decide), e_cV27 s1, mc 6, e_bI, if_neg (by decide), e_cV27 s1, r1, e_bI, if_neg r9, e_cV27 s1, M_isAway s1 (by omega), show gi (si μ 26 6 (gi μ 26 6 + 1)) 39 b = gi μ 39 b from rfl, show gi (si μ 26 6 (gi μ 26 6 + 1)) 27 0 = gi μ 27 0 from rfl, e_bI, if_pos d, if_pos rfl, if_pos h0, if_pos h6, b_M_send_79, e_cV27 s1, no_6 s1, e_bI]
      · by_cases full : n = 40
        · subst full
          refine Opx.ref (c := -6) i 6 (by decide) ?_ ?_
          · unfold f_H_send
            rw [e_cV4 st, hH, e_bR, e_cV4 st, hK, e_bR, if_neg hB, if_neg hC, e_cV4 st, hR, e_bI, if_neg r9, e_gI4 st, em, cV_at bb.2.1, B_isAway bb, e_bI, if_pos d, if_pos rfl, if_pos h0, if_neg h6, e_gR4_5 st, e_cV10 st, AL_size (st_h10 st), e_bI, u2.1, if_neg (show ¬ nI 40 < (40 : Int32) by decide), b_H_send_96, e_cV4 st, rf_6 st, e_bI]
          · have s1 := stA 26 6 (gi μ 26 6 + 1)
            have ev : ∀ h, 27 ≤ h → h ≤ 43 → gi (si μ 26 6 (gi μ 26 6 + 1)) h = gi μ h := fun h q1 q2 => funext fun j => gi_ne (by omega)
            have r1 := M_reach2 (b := b) (c := c) s1 ia is (by rw [rdy_eq ev]; exact r60) (by omega) (by omega)
            rw [rea_eq ev] at r1
            unfold f_M_send
            rw [e_cV27 s1, mb 6, e_bI, if_neg (by decide), e_cV27 s1, mc 6, e_bI, if_neg (by decide), e_cV27 s1, r1, e_bI, if_neg r9, e_cV27 s1, M_isAway s1 (by omega), show gi (si μ 26 6 (gi μ 26 6 + 1)) 39 b = gi μ 39 b from rfl, show gi (si μ 26 6 (gi μ 26 6 + 1)) 27 0 = gi μ 27 0 from rfl, e_bI, if_pos d, if_pos rfl, if_pos h0, if_neg h6, e_gI27 s1, show gi (si μ 26 6 (gi μ 26 6 + 1)) 27 4 = nI 40 from u1, if_pos (show nI 40 = (40 : Int32) from rfl), b_M_send_79, e_cV27 s1, no_6 s1, e_bI]
        · have hcan : ¬ can μ b c = 0 := fun z => r9 (by unfold rea; rw [if_pos z])
          have hlau : ¬ lau μ b = -9 := fun z => r9 (by unfold rea; rw [if_neg hcan, if_pos z])
          have hspd := can_spd hcan
          have s30 := spd_rng bb cc
          have wr := wayv_rng mi bb cc
          have lr := lau_rng mm bb d hlau
          have sb := sbk_ok (t := t) hspd s30.2
          have c1r := cu_rng (way60 wr) hspd s30.2
          have c2r := cu_rng (way60 wr) sb.1 sb.2
          have hh : rng h 0 600 := by
            rw [i32_le] at h0
            rw [i32_lt] at h6
            unfold rng
            simp at h0 h6
            omega
          have eR : rea μ b c = lau μ b + cu (wayv μ b c * 60) (spd μ b c) := by unfold rea; rw [if_neg hcan, if_neg hlau]
          have hHr : rng (rea μ b c + h + cu (wayv μ b c * 60) (sbk t (spd μ b c))) 0 300000 := by
            unfold rng at *
            have e1 : (rea μ b c).toInt = (lau μ b).toInt + (cu (wayv μ b c * 60) (spd μ b c)).toInt := by rw [eR, add_ti (by omega) (by omega)]
            have e2 : (rea μ b c + h).toInt = (rea μ b c).toInt + h.toInt := add_ti (by omega) (by omega)
            rw [add_ti (by omega) (by omega)]
            omega
          have hHome : rea μ b c + h + cu (wayv μ b c * 60) (sbk t (spd μ b c)) = rea μ b c + h + cu (wayv μ b c * 60) (sbk t (spd μ b c)) := rfl
          generalize hHe : rea μ b c + h + cu (wayv μ b c * 60) (sbk t (spd μ b c)) = H at hHr hHome
          have hmade := U_made (μ := μ) (nI b) (nI c) (lau μ b) (rea μ b c) H
          have gn : Gw (S0 (μ.1 + 4)) (S0 (μ.1 + 4)) μ (si (si (si (si (si (nw μ (7, 0)) (μ.1 + 4) 0 (nI b)) (μ.1 + 4) 1 (nI c)) (μ.1 + 4) 2 (lau μ b)) (μ.1 + 4) 3 (rea μ b c)) (μ.1 + 4) 4 H) := (G0nw (Nat.le_refl _)).tr ((G0si (Nat.le_refl _)).tr ((G0si (Nat.le_refl _)).tr ((G0si (Nat.le_refl _)).tr ((G0si (Nat.le_refl _)).tr (G0si (Nat.le_refl _))))))
          have hLM : ∀ r, rea μ b c = r → True := fun _ _ => trivial
          have gw0 : Gw (S0 (μ.1 + 4)) (S0 (μ.1 + 4)) μ (nw μ (7, 0)) := G0nw (Nat.le_refl _)
          have x1 : (si (si (si (si (si (nw μ (7, 0)) (μ.1 + 4) 0 (nI b)) (μ.1 + 4) 1 (nI c)) (μ.1 + 4) 2 (lau μ b)) (μ.1 + 4) 3 (rea μ b c)) (μ.1 + 4) 4 H).1 = μ.1 + 1 := rfl
          have xs : shp (si (si (si (si (si (nw μ (7, 0)) (μ.1 + 4) 0 (nI b)) (μ.1 + 4) 1 (nI c)) (μ.1 + 4) 2 (lau μ b)) (μ.1 + 4) 3 (rea μ b c)) (μ.1 + 4) 4 H) (μ.1 + 4) = (7, 0) := by
            show shp (nw μ (7, 0)) (μ.1 + 4) = _
            rw [shp_nw, if_pos rfl]
          have yy : gi (si (si (si (si (si (nw μ (7, 0)) (μ.1 + 4) 0 (nI b)) (μ.1 + 4) 1 (nI c)) (μ.1 + 4) 2 (lau μ b)) (μ.1 + 4) 3 (rea μ b c)) (μ.1 + 4) 4 H) (μ.1 + 4) 0 = nI b ∧ gi (si (si (si (si (si (nw μ (7, 0)) (μ.1 + 4) 0 (nI b)) (μ.1 + 4) 1 (nI c)) (μ.1 + 4) 2 (lau μ b)) (μ.1 + 4) 3 (rea μ b c)) (μ.1 + 4) 4 H) (μ.1 + 4) 1 = nI c ∧ gi (si (si (si (si (si (nw μ (7, 0)) (μ.1 + 4) 0 (nI b)) (μ.1 + 4) 1 (nI c)) (μ.1 + 4) 2 (lau μ b)) (μ.1 + 4) 3 (rea μ b c)) (μ.1 + 4) 4 H) (μ.1 + 4) 2 = lau μ b ∧ gi (si (si (si (si (si (nw μ (7, 0)) (μ.1 + 4) 0 (nI b)) (μ.1 + 4) 1 (nI c)) (μ.1 + 4) 2 (lau μ b)) (μ.1 + 4) 3 (rea μ b c)) (μ.1 + 4) 4 H) (μ.1 + 4) 3 = rea μ b c ∧ gi (si (si (si (si (si (nw μ (7, 0)) (μ.1 + 4) 0 (nI b)) (μ.1 + 4) 1 (nI c)) (μ.1 + 4) 2 (lau μ b)) (μ.1 + 4) 3 (rea μ b c)) (μ.1 + 4) 4 H) (μ.1 + 4) 4 = H := by
            refine ⟨?_, ?_, ?_, ?_, ?_⟩
            · rw [gi_ne (by omega), gi_ne (by omega), gi_ne (by omega), gi_ne (by omega), gi_eq]
            · rw [gi_ne (by omega), gi_ne (by omega), gi_ne (by omega), gi_eq]
            · rw [gi_ne (by omega), gi_ne (by omega), gi_eq]
            · rw [gi_ne (by omega), gi_eq]
            · rw [gi_eq]
          generalize si (si (si (si (si (nw μ (7, 0)) (μ.1 + 4) 0 (nI b)) (μ.1 + 4) 1 (nI c)) (μ.1 + 4) 2 (lau μ b)) (μ.1 + 4) 3 (rea μ b c)) (μ.1 + 4) 4 H = ξ at gn hmade x1 xs yy
          have sx := st.new gn
          obtain ⟨ν, a1, a2, k2, a3, a4, sv⟩ := made i (l := 10) (by decide) (by decide) gn u2 (by omega) (st_h10 sx) (by unfold okv; rw [xs]; simp) (fun p hp => by unfold okv; rw [(u3 p hp).2.1]; simp)
          have iv := send_in i hnb g1 g2 g3 g4 g5 g6 hb (by omega : n < 40) u1 u2 u3 u4 hHr x1 xs yy a2 k2 a3 a4
          have sn := st.new gw0
          have bn : BOA B b (nw μ (7, 0)) := by
            have q : BOA B b (mixg μ (nw μ (7, 0))) := bb.fr gw0.mix (fun h j q1 q2 => by show ¬ μ.1 + 4 ≤ h; omega) (fun h j q1 q2 => by
              show ¬ μ.1 + 4 ≤ h
              rcases q2 with q2 | q2
              · have := bd q2 (by decide) (by omega); omega
              · have := bd q2 (by decide) (by omega); omega)
            exact q.mix gw0 (fun h j q1 q2 => by show ¬ μ.1 + 4 ≤ h; have := bd q2 (by decide) (by omega); omega)
          have bsn := base_gw gw0 (fun h k q => by have : μ.1 + 4 ≤ h := q; omega) i
          have en : ∀ h, 27 ≤ h → h ≤ 43 → gi (nw μ (7, 0)) h = gi μ h := fun h q1 q2 => funext fun j => gw0.2.2.1 _ _ (by show ¬ μ.1 + 4 ≤ h; omega)
          have hl := H_launch sn bsn.1 bsn.2.2.2.2.1 bsn.2.2.1 bn
          rw [lau_eq en] at hl
          have bbd := bd bb.2.1 (by decide) (by omega)
          have sbv : shp ν (B b) = (3, 0) := (k2.2.1 _ bbd.2).trans bb.2.1
          have h139 : b_H_send_139 4 (nI b) (nI c) h (B b) (C c) (rea μ b c) (sbk t (spd μ b c)) μ = some (.inl H, si ν (B b) 3 H) := by
            unfold b_H_send_139
            rw [e_cV4 st, H_way st mi bb cc, e_bI, H_cut sb.1, e_bI, e_nm, hHe, e_gR4_5 st, nO_at, e_cV4 sn, hl, e_bI, cN_at (show μ.1 + 4 ≠ 0 by omega), hmade, e_bV, e_cV10 sx, a1, e_bI, pI_at sbv]
          have sw : ST (si ν (B b) 3 H) := sv
          have eW : ∀ h, 27 ≤ h → h ≤ 43 → gi (si ν (B b) 3 H) h = gi μ h := fun h q1 q2 => funext fun j => by rw [gi_ne (by omega)]; exact k2.2.2.1 _ _ (by omega)
          refine ⟨H, si ν (B b) 3 H, _, ?_, sw, ?_, iv⟩
          · unfold f_H_send
            rw [e_cV4 st, hH, e_bR, e_cV4 st, hK, e_bR, if_neg hB, if_neg hC, e_cV4 st, hR, e_bI, if_neg r9, e_gI4 st, em, cV_at bb.2.1, B_isAway bb, e_bI, if_pos d, if_pos rfl, if_pos h0, if_neg h6, e_gR4_5 st, e_cV10 st, AL_size (st_h10 st), e_bI, u2.1, if_pos (show nI n < (40 : Int32) from nI_lt (b := 40) (by omega) (by omega))]
            unfold sbk at h139
            by_cases tz : t = 0
            · rw [if_pos tz] at h139 ⊢
              rw [gR_at bb.2.1, bb.2.2.2.1, gI_at cc.2.1, cc.2.2.2.2.1, H_spd bb cc]
              exact h139
            · rw [if_neg tz] at h139 ⊢
              rw [gR_at bb.2.1, bb.2.2.2.1, gI_at cc.2.1, cc.2.2.2.2.1, H_spd bb cc, MA_mx, e_bI]
              exact h139
          · have u1W : gi (si ν (B b) 3 H) 27 4 = nI n := by rw [eW 27 (by decide) (by decide)]; exact u1
            have iaW : inb (gi (si ν (B b) 3 H) 37 b) 6 := by rw [eW 37 (by decide) (by decide)]; exact ia
            have isW : inb (gi (si ν (B b) 3 H) 43 c) 5 := by rw [eW 43 (by decide) (by decide)]; exact is
            have r60W : rng (rdy (si ν (B b) 3 H) b / 60) 0 10000 := by rw [rdy_eq eW]; exact r60
            have key : b_M_send_117 27 (nI b) (nI c) h (rea μ b c) (sbk t (spd μ b c)) (si ν (B b) 3 H) = _ := send_M (L := lau μ b) (H := H) sw (by omega) (by omega) (by omega : n < 40) u1W iaW r60W sb.1 (by rw [wayv_eq eW]; exact hHe) (lau_eq eW b)
            have r1 := M_reach2 (b := b) (c := c) sw iaW isW r60W (by omega) (by omega)
            have sp1 := M_spd (b := b) (c := c) sw (by omega) (by omega) isW
            rw [rea_eq eW] at r1
            rw [spd_eq eW] at sp1
            unfold f_M_send
            rw [e_cV27 sw, MisBoat_t sw (by rw [eW 27 (by decide) (by decide)]; exact g1) (by omega) hb, e_bI, if_neg (by decide), e_cV27 sw, MisCall_t sw (by rw [eW 27 (by decide) (by decide)]; exact c1) (by omega) hc, e_bI, if_neg (by decide), e_cV27 sw, r1, e_bI, if_neg r9, e_cV27 sw, M_isAway sw (by omega), eW 39 (by decide) (by decide), eW 27 (by decide) (by decide), e_bI, if_pos d, if_pos rfl, if_pos h0, if_neg h6, e_gI27 sw, u1W, if_neg (show ¬ nI n = (40 : Int32) from fun z => full (nI_inj (b := 40) (by omega) (by omega) z)), e_cV27 sw, sp1, e_bI]
            unfold sbk mx at key
            by_cases tz : t = 0
            · rw [if_pos tz] at key ⊢
              exact key
            · rw [if_neg tz] at key ⊢
              unfold b_M_send_115
              by_cases v1 : 1 ≤ spd μ b c / 2
              · rw [if_pos v1] at key ⊢
                exact key
              · rw [if_neg v1] at key ⊢
                exact key
    · refine Opx.ref (c := -4) i 4 (by decide) ?_ ?_
      · unfold f_H_send
        rw [e_cV4 st, hH, e_bR, e_cV4 st, hK, e_bR, if_neg hB, if_neg hC, e_cV4 st, hR, e_bI, if_neg r9, e_gI4 st, em, cV_at bb.2.1, B_isAway bb, e_bI, if_pos d, if_pos rfl, if_neg h0, e_cV4 st, rf_4 st, e_bI]
      · have s1 := stA 26 4 (gi μ 26 4 + 1)
        have ev : ∀ h, 27 ≤ h → h ≤ 43 → gi (si μ 26 4 (gi μ 26 4 + 1)) h = gi μ h := fun h q1 q2 => funext fun j => gi_ne (by omega)
        have r1 := M_reach2 (b := b) (c := c) s1 ia is (by rw [rdy_eq ev]; exact r60) (by omega) (by omega)
        rw [rea_eq ev] at r1
        unfold f_M_send
        rw [e_cV27 s1, mb 4, e_bI, if_neg (by decide), e_cV27 s1, mc 4, e_bI, if_neg (by decide), e_cV27 s1, r1, e_bI, if_neg r9, e_cV27 s1, M_isAway s1 (by omega), show gi (si μ 26 4 (gi μ 26 4 + 1)) 39 b = gi μ 39 b from rfl, show gi (si μ 26 4 (gi μ 26 4 + 1)) 27 0 = gi μ 27 0 from rfl, e_bI, if_pos d, if_pos rfl, if_neg h0, e_cV27 s1, no_4 s1, e_bI]
  · refine Opx.ref (c := -3) i 3 (by decide) ?_ ?_
    · unfold f_H_send
      rw [e_cV4 st, hH, e_bR, e_cV4 st, hK, e_bR, if_neg hB, if_neg hC, e_cV4 st, hR, e_bI, if_neg r9, e_gI4 st, em, cV_at bb.2.1, B_isAway bb, e_bI, if_neg d, if_neg (by decide), b_H_send_59, e_cV4 st, rf_3 st, e_bI]
    · have s1 := stA 26 3 (gi μ 26 3 + 1)
      have ev : ∀ h, 27 ≤ h → h ≤ 43 → gi (si μ 26 3 (gi μ 26 3 + 1)) h = gi μ h := fun h q1 q2 => funext fun j => gi_ne (by omega)
      have r1 := M_reach2 (b := b) (c := c) s1 ia is (by rw [rdy_eq ev]; exact r60) (by omega) (by omega)
      rw [rea_eq ev] at r1
      unfold f_M_send
      rw [e_cV27 s1, mb 3, e_bI, if_neg (by decide), e_cV27 s1, mc 3, e_bI, if_neg (by decide), e_cV27 s1, r1, e_bI, if_neg r9, e_cV27 s1, M_isAway s1 (by omega), show gi (si μ 26 3 (gi μ 26 3 + 1)) 39 b = gi μ 39 b from rfl, show gi (si μ 26 3 (gi μ 26 3 + 1)) 27 0 = gi μ 27 0 from rfl, e_bI, if_neg d, if_neg (by decide), b_M_send_45, e_cV27 s1, no_3 s1, e_bI]
