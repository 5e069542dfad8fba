/-! memories that grow; the add of a list -/
def Gw (S T : Nat → Nat → Prop) (μ ν : Mem) : Prop := μ.1 ≤ ν.1 ∧ (∀ h, h < μ.1 + 4 → shp ν h = shp μ h) ∧ (∀ h k, ¬ S h k → gi ν h k = gi μ h k) ∧ (∀ h k, ¬ T h k → gr ν h k = gr μ h k)
theorem Gw.rf {S T : Nat → Nat → Prop} {μ : Mem} : Gw S T μ μ := ⟨Nat.le_refl _, fun _ _ => rfl, fun _ _ _ => rfl, fun _ _ _ => rfl⟩
theorem Gw.tr {S T : Nat → Nat → Prop} {μ ν ξ : Mem} (a : Gw S T μ ν) (b : Gw S T ν ξ) : Gw S T μ ξ := ⟨Nat.le_trans a.1 b.1, fun h q => (b.2.1 h (by have := a.1; omega)).trans (a.2.1 h q), fun h k q => (b.2.2.1 h k q).trans (a.2.2.1 h k q), fun h k q => (b.2.2.2 h k q).trans (a.2.2.2 h k q)⟩
theorem Gw.up {S T S' T' : Nat → Nat → Prop} {μ ν : Mem} (a : Gw S T μ ν) (h1 : ∀ h k, S h k → S' h k) (h2 : ∀ h k, T h k → T' h k) : Gw S' T' μ ν := ⟨a.1, a.2.1, fun h k q => a.2.2.1 h k (fun z => q (h1 h k z)), fun h k q => a.2.2.2 h k (fun z => q (h2 h k z))⟩
theorem Gwsi {S T : Nat → Nat → Prop} {μ : Mem} {h k : Nat} {x : Int32} (g : S h k) : Gw S T μ (si μ h k x) := ⟨Nat.le_refl _, fun _ _ => rfl, fun a j n => by rw [gi_si]; exact if_neg (fun q => n (by rw [q.1, q.2]; exact g)), fun _ _ _ => rfl⟩
theorem Gwsr {S T : Nat → Nat → Prop} {μ : Mem} {h k x : Nat} (g : T h k) : Gw S T μ (sr μ h k x) := ⟨Nat.le_refl _, fun _ _ => rfl, fun _ _ _ => rfl, fun a j n => by rw [gr_sr]; exact if_neg (fun q => n (by rw [q.1, q.2]; exact g))⟩
theorem Gwnw {S T : Nat → Nat → Prop} {μ : Mem} {s : Nat × Nat} (g : ∀ k, S (μ.1 + 4) k) (g2 : ∀ k, T (μ.1 + 4) k) : Gw S T μ (nw μ s) := ⟨Nat.le_succ _, fun h q => by rw [shp_nw]; exact if_neg (by omega), fun a j n => by rw [gi_nw]; exact if_neg (fun q => n (by rw [q]; exact g j)), fun a j n => by rw [gr_nw]; exact if_neg (fun q => n (by rw [q]; exact g2 j))⟩
theorem Gwmc {S T : Nat → Nat → Prop} {μ : Mem} {a b c d e : Nat} (g : ∀ k, T c k) : Gw S T μ (mcR μ a b c d e) := ⟨Nat.le_refl _, fun _ _ => rfl, fun _ _ _ => rfl, fun h j n => by rw [gr_mcR]; exact if_neg (fun q => n (by rw [q]; exact g j))⟩
theorem Gwfr {S T : Nat → Nat → Prop} {μ ν : Mem} (a : Fr S μ ν) : Gw S T μ ν := ⟨by rw [a.1.1]; exact Nat.le_refl _, fun h _ => a.1.2.1 h, a.2, fun h k _ => a.1.2.2 h k⟩
theorem bd {μ : Mem} {h : Nat} {s : Nat × Nat} (hs : shp μ h = s) (h1 : s.1 < 900) (h59 : h ≠ 1) : 4 ≤ h ∧ h < μ.1 + 4 := by
  unfold shp at hs
  rw [if_neg h59] at hs
  by_cases q : 4 ≤ h ∧ h < μ.1 + 4
  · exact q
  · rw [if_neg q] at hs
    rw [← hs] at h1
    simp at h1
theorem okv_ne {μ : Mem} {v : Nat} (h : okv μ v) : v ≠ 1 := fun q => by
  rw [q] at h
  have e : shp μ 1 = (2, 0) := shp_1 μ
  rw [okv, e] at h
  simp at h
theorem okv_bd {μ : Mem} {v : Nat} (h : okv μ v) : 4 ≤ v ∧ v < μ.1 + 4 := bd rfl (by have := h.2; omega) (okv_ne h)
theorem newlen : ∀ c, c < 40 → mx (nI (c + 1) - nI c) (nI c >>> (1 &&& 31)) = nI (max 1 (c / 2)) := by decide +kernel
theorem AS_nl {μ : Mem} {c : Nat} (hc : c < 40) : f_AS_newLength (nI c) (nI (c + 1) - nI c) (nI c >>> (1 &&& 31)) μ = some (.inl (nI (c + max 1 (c / 2))), μ) := by
  have hm : max 1 (c / 2) ≤ 40 ∧ 1 ≤ max 1 (c / 2) := by omega
  unfold f_AS_newLength
  rw [MA_mx, e_bI, newlen c hc, e_nm, nI_add, if_neg (show ¬ nI (c + max 1 (c / 2)) ≤ 0 from nI_ge (a := 0) (by omega) (by omega)), if_neg (by rw [i32_lt, ti_nI (by omega)]; simp; omega)]
theorem aL_at {μ : Mem} {h c : Nat} (hs : shp μ h = (2, c)) (K : Int32 → Option (LV × Mem)) : aL h μ K = K (nI c) := by
  unfold aL
  rw [hs]
  rfl
theorem nR_at {μ : Mem} {c : Nat} (hc : c ≤ 64) (K : Nat → Mem → Option (LV × Mem)) : nR (nI c) μ K = K (μ.1 + 4) (nw μ (2, c)) := by
  unfold nR
  rw [cl_nI (by omega), if_pos ⟨by rw [i32_le, ti_nI (by omega)]; simp, hc⟩]
theorem pR_at {μ : Mem} {ci h : Nat} (hs : shp μ h = (ci + 3, 0)) (k : Nat) (x : Nat) (K : Mem → Option (LV × Mem)) : pR ci h k x μ K = K (sr μ h k x) := if_pos hs
theorem AL_grow_e {ξ : Mem} {l : Nat} (hl : shp ξ l = (14, 0)) (hl4 : l < ξ.1 + 4) (hr : gr ξ l 1 = 1) (h0 : gi ξ l 2 = nI 0) : f_AL_grow0 l ξ = some (.inr (ξ.1 + 4), sr (nw ξ (2, 10)) l 1 (ξ.1 + 4)) := by
  have hl2 : shp (nw ξ (2, 10)) l = (14, 0) := by rw [shp_nw, if_neg (by omega)]; exact hl
  unfold f_AL_grow0 f_AL_grow1
  rw [gI_at hl, h0, cV_at hl, gR_at hl, hr, aL_at (shp_1 ξ), if_neg (by decide), gR_at hl, hr]
  unfold aq
  rw [if_pos rfl, MA_mx, e_bI, show mx 10 (nI 0 + 1) = nI 10 by decide, nR_at (by decide), pR_at hl2, e_bR]
theorem MA_mn {μ : Mem} {a b : Nat} (h : a ≤ b) (hb : b < 100) : f_MA_min (nI a) (nI b) μ = some (.inl (nI a), μ) := by
  unfold f_MA_min
  rw [if_neg (nI_nlt h (by omega))]
theorem AL_grow_c {ξ : Mem} {l n r : Nat} (hl : shp ξ l = (14, 0)) (hl4 : l < ξ.1 + 4) (hr : gr ξ l 1 = r) (hr1 : r ≠ 1) (hs : shp ξ r = (2, n)) (hn : n < 40) (hn1 : 1 ≤ n) (h2 : gi ξ l 2 = nI n) (ho : ∀ i, i < n → okv ξ (gr ξ r i)) : f_AL_grow0 l ξ = some (.inr (ξ.1 + 4), sr (mcR (nw ξ (2, n + max 1 (n / 2))) r 0 (ξ.1 + 4) 0 n) l 1 (ξ.1 + 4)) := by
  have rb := bd hs (show (2, n).1 < 900 by simp) hr1
  have hm : max 1 (n / 2) ≤ 20 ∧ 1 ≤ max 1 (n / 2) := by omega
  have sr' : shp (nw ξ (2, n + max 1 (n / 2))) r = (2, n) := by rw [shp_nw, if_neg (by omega)]; exact hs
  have sh' : shp (nw ξ (2, n + max 1 (n / 2))) (ξ.1 + 4) = (2, n + max 1 (n / 2)) := by rw [shp_nw, if_pos rfl]
  have sl' : shp (mcR (nw ξ (2, n + max 1 (n / 2))) r 0 (ξ.1 + 4) 0 n) l = (14, 0) := by show shp (nw ξ _) l = _; rw [shp_nw, if_neg (by omega)]; exact hl
  have cp : f_AR_copyOf2 r (nI (n + max 1 (n / 2))) ξ = some (.inr (ξ.1 + 4), mcR (nw ξ (2, n + max 1 (n / 2))) r 0 (ξ.1 + 4) 0 n) := by
    unfold f_AR_copyOf2 f_AR_copyOf3 gC
    rw [hs, if_pos ⟨hr1, rfl⟩]
    unfold aq
    rw [if_pos rfl, nR_at (by omega), aL_at sr', MA_mn (by omega) (by omega), e_bI]
    unfold cpR
    rw [sr', sh', cl_nI (by omega), if_pos, e_bR]
    · rfl
    · refine ⟨hr1, by omega, rfl, rfl, by decide, by decide, nI_nlt0 (by omega), ?_, ?_, ?_⟩
      · show 0 + n ≤ n; omega
      · show 0 + n ≤ n + max 1 (n / 2); omega
      · intro i hi
        refine Or.inr ?_
        have oi := ho i hi
        have bi := okv_bd oi
        show okv _ (gr (nw ξ _) r (0 + i))
        rw [Nat.zero_add, gr_nw, if_neg (by omega)]
        unfold okv
        rw [shp_nw, if_neg (by omega)]
        exact oi
  unfold f_AL_grow0 f_AL_grow1
  rw [gI_at hl, h2, cV_at hl, gR_at hl, hr, aL_at hs, if_pos (show (0 : Int32) < nI n from nI_lt (a := 0) (by omega) (by omega))]
  unfold b_AL_grow1_20
  rw [nI_1, AS_nl hn, e_bI, gR_at hl, hr, cp, e_bR, pR_at sl', e_bR]
theorem add311 {ξ : Mem} {l n r x c : Nat} (hl : shp ξ l = (14, 0)) (hr : r ≠ 1) (hs : shp ξ r = (2, c)) (hn : n < c) (hc : c ≤ 64) (hx : okv ξ x) : b_AL_add3_11 l x r (nI n) ξ = some (.inl 0, si (sr ξ r n x) l 2 (nI (n + 1))) := by
  unfold b_AL_add3_11 rS
  rw [hs, if_pos ⟨hr, rfl, inb_nI hn (by omega), hx⟩, cl_nI (by omega)]
  show pI 11 l 2 (nI n + 1) (sr ξ r n x) _ = _
  rw [pI_at (show shp (sr ξ r n x) l = (14, 0) from hl), nI_1]
theorem okv_gw {S T : Nat → Nat → Prop} {μ ν : Mem} {v : Nat} (a : Gw S T μ ν) (h : okv μ v) : okv ν v := by
  unfold okv
  rw [a.2.1 v (okv_bd h).2]
  exact h
theorem add_fin {S T : Nat → Nat → Prop} {μ ξ : Mem} {l n r x c : Nat} {P : Nat → Nat} (gA : Gw S T μ ξ) (hl : shp ξ l = (14, 0)) (l10 : l ≤ 10) (hr : gr ξ l 1 = r) (hs : shp ξ r = (2, c)) (hn : n < c) (hc : c ≤ 64) (r59 : 59 ≤ r) (hT : ∀ k, T r k) (hS : S l 2) (he : ∀ p, p < n → gr ξ r p = P p) (hx : okv ξ x) :
    ∃ ν, b_AL_add3_11 l x r (nI n) ξ = some (.inl 0, ν) ∧ Gw S T μ ν ∧ LST l (fun p => if p = n then x else P p) (n + 1) ν ∧ gr ν l 1 = r := by
  have e1 : gr (si (sr ξ r n x) l 2 (nI (n + 1))) l 1 = r := by
    rw [gr_si, gr_sr, if_neg (by omega)]; exact hr
  refine ⟨si (sr ξ r n x) l 2 (nI (n + 1)), add311 hl (by omega) hs hn hc hx, gA.tr ((Gwsr (hT n)).tr (Gwsi hS)), ⟨gi_eq _ _ _ _, Or.inr ⟨c, ?_, by omega, by omega, hc, ?_⟩, ?_⟩, e1⟩
  · rw [e1]; exact hs
  · rw [e1]; exact r59
  · intro p hp
    rw [e1, gr_si, gr_sr]
    show _ = if p = n then x else P p
    by_cases q : p = n
    · rw [if_pos ⟨rfl, q⟩, if_pos q]
    · rw [if_neg (fun z => q z.2), if_neg q]
      exact he p (by omega)
/-- the add of a list -/
theorem AL_add {μ : Mem} {l n x : Nat} {P : Nat → Nat} (m55 : 55 ≤ μ.1) (l7 : 7 ≤ l) (l10 : l ≤ 10) (hl : shp μ l = (14, 0)) (L : LST l P n μ) (hn : n < 40) (hx : okv μ x) (hP : ∀ p, p < n → okv μ (P p)) :
    ∃ ν, f_AL_add1 l x μ = some (.inl 1, ν) ∧ Gw (fun h k => (h = l ∧ k ≤ 2) ∨ μ.1 + 4 ≤ h) (fun h k => (h = l ∧ k = 1) ∨ (h = gr μ l 1 ∧ 59 ≤ h) ∨ μ.1 + 4 ≤ h) μ ν ∧ LST l (fun p => if p = n then x else P p) (n + 1) ν ∧ (gr ν l 1 = gr μ l 1 ∧ 59 ≤ gr μ l 1 ∨ μ.1 + 4 ≤ gr ν l 1) := by
  have hadd : ∀ ν, f_AL_add3 l x (gr μ l 1) (nI n) (si μ l 0 (gi μ l 0 + 1)) = some (.inl 0, ν) → f_AL_add1 l x μ = some (.inl 1, ν) := fun ν h => by
    unfold f_AL_add1
    have h1 : shp (si μ l 0 (gi μ l 0 + 1)) l = (14, 0) := hl
    have h2 : gr (si μ l 0 (gi μ l 0 + 1)) l 1 = gr μ l 1 := rfl
    have h3 : gi (si μ l 0 (gi μ l 0 + 1)) l 2 = nI n := by rw [gi_ne (by omega)]; exact L.1
    rw [gI_at hl, pI_at hl, gR_at h1, h2, gI_at h1, h3, cV_at h1, h, e_bV]
  have g0 : Gw (fun h k => (h = l ∧ k ≤ 2) ∨ μ.1 + 4 ≤ h) (fun h k => (h = l ∧ k = 1) ∨ (h = gr μ l 1 ∧ 59 ≤ h) ∨ μ.1 + 4 ≤ h) μ (si μ l 0 (gi μ l 0 + 1)) := Gwsi (Or.inl ⟨rfl, by decide⟩)
  have xb := okv_bd hx
  have elem : ∀ p, p < n → gr μ (gr μ l 1) p = P p := L.2.2
  have hl1 : shp (si μ l 0 (gi μ l 0 + 1)) l = (14, 0) := hl
  rcases L.2.1 with ⟨e0, e1⟩ | ⟨c, c1, c2, c3, c4, c5⟩
  · -- the empty row
    subst e0
    have hg := AL_grow_e (ξ := si μ l 0 (gi μ l 0 + 1)) (l := l) hl (by show l < μ.1 + 4; omega) e1 (by rw [gi_ne (by omega)]; exact L.1)
    have s1 : shp (sr (nw (si μ l 0 (gi μ l 0 + 1)) (2, 10)) l 1 (μ.1 + 4)) l = (14, 0) := by
      rw [shp_sr, shp_nw, if_neg (by show ¬ l = μ.1 + 4; omega)]; exact hl
    have s2 : shp (sr (nw (si μ l 0 (gi μ l 0 + 1)) (2, 10)) l 1 (μ.1 + 4)) (μ.1 + 4) = (2, 10) := by
      rw [shp_sr, shp_nw]; exact if_pos rfl
    have gA := g0.tr (((Gwnw (μ := si μ l 0 (gi μ l 0 + 1)) (s := (2, 10)) (fun k => Or.inr (Nat.le_refl _)) (fun k => Or.inr (Or.inr (Nat.le_refl _))))).tr (Gwsr (h := l) (k := 1) (x := μ.1 + 4) (Or.inl ⟨rfl, rfl⟩)))
    obtain ⟨ν, f1, f2, f3, f4⟩ := add_fin (n := 0) (P := P) gA s1 l10 (by rw [gr_sr, if_pos ⟨rfl, rfl⟩]) s2 (by decide) (by decide) (by omega) (fun k => Or.inr (Or.inr (Nat.le_refl _))) (Or.inl ⟨rfl, by decide⟩) (fun p hp => absurd hp (Nat.not_lt_zero p)) (okv_gw gA hx)
    refine ⟨ν, hadd _ ?_, f2, f3, Or.inr (by rw [f4]; exact Nat.le_refl _)⟩
    unfold f_AL_add3
    rw [e1, aL_at (shp_1 _), if_pos rfl, cV_at hl1, hg, e_bR]
    exact f1
  · have rb := bd c1 (show (2, c).1 < 900 by simp) (by omega)
    by_cases full : n = c
    · -- a full row: a longer one
      subst full
      have hg := AL_grow_c (ξ := si μ l 0 (gi μ l 0 + 1)) (l := l) (n := n) (r := gr μ l 1) hl (by show l < μ.1 + 4; omega) rfl (by omega) c1 hn c3 (by rw [gi_ne (by omega)]; exact L.1) (fun i hi => by
        show okv μ (gr μ (gr μ l 1) i)
        rw [elem i hi]; exact hP i hi)
      have hm : n + max 1 (n / 2) ≤ 64 ∧ n < n + max 1 (n / 2) := by omega
      generalize n + max 1 (n / 2) = d at hg hm
      have s1 : shp (sr (mcR (nw (si μ l 0 (gi μ l 0 + 1)) (2, d)) (gr μ l 1) 0 (μ.1 + 4) 0 n) l 1 (μ.1 + 4)) l = (14, 0) := by
        show shp (nw _ _) l = _
        rw [shp_nw, if_neg (by show ¬ l = μ.1 + 4; omega)]; exact hl
      have s2 : shp (sr (mcR (nw (si μ l 0 (gi μ l 0 + 1)) (2, d)) (gr μ l 1) 0 (μ.1 + 4) 0 n) l 1 (μ.1 + 4)) (μ.1 + 4) = (2, d) := by
        show shp (nw _ _) (μ.1 + 4) = _
        rw [shp_nw]; exact if_pos rfl
      have gA := g0.tr ((Gwnw (μ := si μ l 0 (gi μ l 0 + 1)) (s := (2, d)) (fun k => Or.inr (Nat.le_refl _)) (fun k => Or.inr (Or.inr (Nat.le_refl _)))).tr ((Gwmc (a := gr μ l 1) (b := 0) (c := μ.1 + 4) (d := 0) (e := n) (fun k => Or.inr (Or.inr (Nat.le_refl _)))).tr (Gwsr (h := l) (k := 1) (x := μ.1 + 4) (Or.inl ⟨rfl, rfl⟩))))
      obtain ⟨ν, f1, f2, f3, f4⟩ := add_fin (n := n) (P := P) gA s1 l10 (by rw [gr_sr, if_pos ⟨rfl, rfl⟩]) s2 hm.2 hm.1 (by omega) (fun k => Or.inr (Or.inr (Nat.le_refl _))) (Or.inl ⟨rfl, by decide⟩) (fun p hp => by
        rw [gr_sr, if_neg (by omega), gr_mcR, if_pos rfl]
        unfold va_cpy
        rw [if_pos (by omega), show 0 + (p - 0) = p by omega, gr_nw, if_neg (by show ¬ gr μ l 1 = μ.1 + 4; omega)]
        exact elem p hp) (okv_gw gA hx)
      refine ⟨ν, hadd _ ?_, f2, f3, Or.inr (by rw [f4]; exact Nat.le_refl _)⟩
      unfold f_AL_add3
      rw [aL_at (show shp (si μ l 0 (gi μ l 0 + 1)) (gr μ l 1) = (2, n) from c1), if_pos rfl, cV_at hl1, hg, e_bR]
      exact f1
    · -- room is left
      obtain ⟨ν, f1, f2, f3, f4⟩ := add_fin (n := n) (P := P) (r := gr μ l 1) g0 hl1 l10 rfl (show shp (si μ l 0 (gi μ l 0 + 1)) (gr μ l 1) = (2, c) from c1) (by omega) c4 c5 (fun k => Or.inr (Or.inl ⟨rfl, c5⟩)) (Or.inl ⟨rfl, by decide⟩) elem hx
      refine ⟨ν, hadd _ ?_, f2, f3, Or.inl ⟨f4, c5⟩⟩
      unfold f_AL_add3
      rw [aL_at (show shp (si μ l 0 (gi μ l 0 + 1)) (gr μ l 1) = (2, c) from c1), if_neg (fun z => full (nI_inj (by omega) (by omega) z))]
      exact f1

