/-! rows of ints, of booleans, of objects; new cells; answers -/
section AR
variable {E : EV} {M : MI} {R : Room} {Q : LV × Mem → List Frame → Array Value → State → State → Prop} {cells slots pc : Nat} {μ : Mem} {lv : List (Option LV)} {st : List LV} {F : Option (LV × Mem)}
theorem lo_put {E : EV} {locs : List Loc} {a j : Nat} (lo : ∀ q ∈ locs, AE E q.base) : ∀ q ∈ locs ++ [(⟨E.2.1.size + a, j⟩ : Loc)], AE E q.base := by
  intro q hq
  rcases List.mem_append.mp hq with hq | hq
  · exact lo q hq
  · simp at hq; subst hq; show E.2.1.size ≤ E.2.1.size + a; omega
theorem J_aI {h : Nat} {i : Int32} {K : Int32 → Option (LV × Mem)} (hd : decode M.2.1 pc = .ok (.iaload, 1))
    (kk : ∀ v, J E M R Q cells slots μ (pc + 1) lv (.inl v :: st) (K v)) : J E M R Q cells slots μ pc lv (.inl i :: .inr h :: st) (aI h i μ K) := by
  intro r hr p e s m args below meth c ls H locs fx ks wh lo hl
  unfold aI at hr
  generalize hsx : shp μ h = sx at hr
  obtain ⟨kq, n⟩ := sx
  split at hr
  · rename_i hs
    obtain ⟨h0, hi⟩ := hs
    dsimp only at h0 hi
    subst h0
    obtain ⟨a, rfl, ha, hw⟩ := cell_at (E := E) hsx (by simp) (by simp)
    exact va_iald fx.1 fx.2.1 ks.1 wh.1 a 0 (cA := E.2.2.2.1.1) (n := n) (f := gi μ (a + 4)) hw rfl (inb_vp hi) hd (kk _ r hr p e s m args below meth c ls H locs fx ks wh lo hl)
  · cases hr
theorem J_zI {h : Nat} {i : Int32} {K : Int32 → Option (LV × Mem)} (hd : decode M.2.1 pc = .ok (.baload, 1))
    (kk : ∀ v, J E M R Q cells slots μ (pc + 1) lv (.inl v :: st) (K v)) : J E M R Q cells slots μ pc lv (.inl i :: .inr h :: st) (zI h i μ K) := by
  intro r hr p e s m args below meth c ls H locs fx ks wh lo hl
  unfold zI at hr
  generalize hsx : shp μ h = sx at hr
  obtain ⟨kq, n⟩ := sx
  split at hr
  · rename_i hs
    obtain ⟨h0, hi⟩ := hs
    dsimp only at h0 hi
    subst h0
    obtain ⟨a, rfl, ha, hw⟩ := cell_at (E := E) hsx (by simp) (by simp)
    exact va_zald fx.1 fx.2.1 ks.1 wh.1 a 1 (cA := E.2.2.2.1.2.1) (n := n) (f := gi μ (a + 4)) hw rfl (inb_vp hi) hd (kk _ r hr p e s m args below meth c ls H locs fx ks wh lo hl)
  · cases hr
theorem J_rI {h : Nat} {i : Int32} {K : Nat → Option (LV × Mem)} (hd : decode M.2.1 pc = .ok (.aaload, 1))
    (kk : ∀ v, J E M R Q cells slots μ (pc + 1) lv (.inr v :: st) (K v)) : J E M R Q cells slots μ pc lv (.inl i :: .inr h :: st) (rI h i μ K) := by
  intro r hr p e s m args below meth c ls H locs fx ks wh lo hl
  unfold rI at hr
  generalize hsx : shp μ h = sx at hr
  obtain ⟨kq, n⟩ := sx
  split at hr
  · rename_i hs
    obtain ⟨h1, h0, hi⟩ := hs
    dsimp only at h0 hi
    subst h0
    have hn : ¬ ((2, n) : Nat × Nat) = (2, 0) := fun q => by
      have : n = 0 := (Prod.mk.inj q).2
      subst this
      exact absurd hi.2 (Nat.not_lt_zero _)
    obtain ⟨a, rfl, ha, hw⟩ := cell_at (E := E) hsx hn (by simp)
    exact va_aldq fx.1 fx.2.1 ks.1 wh.1 a 2 (cA := E.2.2.2.1.2.2) (C := "java/lang/Object") (n := n) (f := fun j => ra E (gr μ (a + 4) j)) hw rfl (inb_vp hi) hd (kk _ r hr p e s m args below meth c ls H locs fx ks wh lo hl)
  · cases hr
theorem upd_si (μ : Mem) (h k : Nat) (x : Int32) : gi (si μ h k x) h = upd (gi μ h) k x := by
  funext j
  rw [gi_si]
  unfold upd
  by_cases hj : j = k
  · rw [if_pos ⟨rfl, hj⟩, if_pos hj]
  · rw [if_neg (fun q => hj q.2), if_neg hj]
theorem J_aS {h : Nat} {i x : Int32} {K : Mem → Option (LV × Mem)} (hd : decode M.2.1 pc = .ok (.iastore, 1))
    (kk : ∀ μ', J E M R Q cells slots μ' (pc + 1) lv st (K μ')) : J E M R Q cells slots μ pc lv (.inl x :: .inl i :: .inr h :: st) (aS h i x μ K) := by
  intro r hr p e s m args below meth c ls H locs fx ks wh lo hl
  unfold aS at hr
  generalize hsx : shp μ h = sx at hr
  obtain ⟨kq, n⟩ := sx
  split at hr
  · rename_i hs
    obtain ⟨h0, hi⟩ := hs
    dsimp only at h0 hi
    subst h0
    obtain ⟨a, rfl, ha, hw⟩ := cell_at (E := E) hsx (by simp) (by simp)
    have hc : H[E.2.1.size + a]? = some (vp_cell E.2.2.2.1.1 (n, .inl (gi μ (a + 4)))) := wh.1 a _ hw
    refine W.iast fx.1 fx.2.1 hc ((ks.1.2 0 _ rfl).1 n (fun j => .int (gi μ (a + 4) j))) (fun q => by cases q) (by show ¬ (i < 0 ∨ (arrV _ _ _).slots.size ≤ _); rw [arrV_size]; exact inb_vp hi) rfl rfl hd fun H1 e1 e2 e3 => ?_
    refine kk _ r hr p e s m args below meth c ls H1 _ fx ks (WH_put wh e2 e3 rfl (fun b _ hb => cellOf_si E μ x (by omega)) ?_) (lo_put lo) hl
    unfold cellOf
    rw [shp_si, hsx]
    show H1[E.2.1.size + a]? = some (vp_cell E.2.2.2.1.1 (n, .inl (gi (si μ (a + 4) i.toNatClampNeg x) (a + 4))))
    rw [e1, upd_si, vp_cell_i, vp_cell_i, arrV_store]
    congr 2
    funext q
    by_cases hq : q = i.toNatClampNeg
    · subst hq; simp [updV, upd]
    · simp [updV, upd, hq]
  · cases hr
theorem J_zS {h : Nat} {i x : Int32} {K : Mem → Option (LV × Mem)} (hd : decode M.2.1 pc = .ok (.bastore, 1))
    (kk : ∀ μ', J E M R Q cells slots μ' (pc + 1) lv st (K μ')) : J E M R Q cells slots μ pc lv (.inl x :: .inl i :: .inr h :: st) (zS h i x μ K) := by
  intro r hr p e s m args below meth c ls H locs fx ks wh lo hl
  unfold zS at hr
  generalize hsx : shp μ h = sx at hr
  obtain ⟨kq, n⟩ := sx
  split at hr
  · rename_i hs
    obtain ⟨h0, hi⟩ := hs
    dsimp only at h0 hi
    subst h0
    obtain ⟨a, rfl, ha, hw⟩ := cell_at (E := E) hsx (by simp) (by simp)
    have hc : H[E.2.1.size + a]? = some (vp_cell E.2.2.2.1.2.1 (n, .inl (gi μ (a + 4)))) := wh.1 a _ hw
    refine W.zast fx.1 fx.2.1 hc ((ks.1.2 1 _ rfl).1 n (fun j => .int (gi μ (a + 4) j))) (fun q => by cases q) (by show ¬ (i < 0 ∨ (arrV _ _ _).slots.size ≤ _); rw [arrV_size]; exact inb_vp hi) rfl rfl hd fun H1 e1 e2 e3 => ?_
    refine kk _ r hr p e s m args below meth c ls H1 _ fx ks (WH_put wh e2 e3 rfl (fun b _ hb => cellOf_si E μ _ (by omega)) ?_) (lo_put lo) hl
    unfold cellOf
    rw [shp_si, hsx]
    show H1[E.2.1.size + a]? = some (vp_cell E.2.2.2.1.2.1 (n, .inl (gi (si μ (a + 4) i.toNatClampNeg (vp_nar .boolean x)) (a + 4))))
    rw [e1, upd_si, vp_cell_i, vp_cell_i, arrV_store]
    congr 2
    funext q
    by_cases hq : q = i.toNatClampNeg
    · subst hq; simp [updV, upd]; rfl
    · simp [updV, upd, hq]
  · cases hr
theorem J_aL {h : Nat} {K : Int32 → Option (LV × Mem)} (hd : decode M.2.1 pc = .ok (.arraylength, 1))
    (kk : ∀ v, J E M R Q cells slots μ (pc + 1) lv (.inl v :: st) (K v)) : J E M R Q cells slots μ pc lv (.inr h :: st) (aL h μ K) := by
  intro r hr p e s m args below meth c ls H locs fx ks wh lo hl
  unfold aL at hr
  split at hr
  · rename_i hs
    have k1 := kk _ r hr p e s m args below meth c ls H locs fx ks wh lo hl
    by_cases h1 : h = 1
    · subst h1
      obtain ⟨cell, g1, g2, g3, g4, g5, g6, g7⟩ := ks.2.2.1
      refine W.alen (n := Int32.ofNat 0) fx.1 fx.2.1 (a := E.2.2.2.2.1.1) (cell := cell) (ty := .object "java/lang/Object") ?_ g2 g5 rfl rfl hd k1
      rw [wh.2.1 _ (Nat.lt_of_not_le g7)]
      exact g1
    · have hne : shp μ h ≠ (999, 0) := fun q => by rw [q] at hs; simp at hs
      have h4 : ∃ a, h = a + 4 ∧ a < μ.1 := by
        unfold shp at hne
        rw [if_neg h1] at hne
        split at hne
        · exact ⟨h - 4, by omega, by omega⟩
        · exact absurd rfl hne
      obtain ⟨a, rfl, ha⟩ := h4
      generalize hsx : shp μ (a + 4) = sx at hs k1
      obtain ⟨kq, n⟩ := sx
      have hw := wl_get E μ ha
      unfold cellOf at hw
      rw [hsx] at hw
      match kq, hs with
      | 0, _ => exact va_alen fx.1 fx.2.1 ks.1 wh.1 a 0 (cA := E.2.2.2.1.1) (x := (n, .inl (gi μ (a + 4)))) hw rfl rfl hd k1
      | 1, _ => exact va_alen fx.1 fx.2.1 ks.1 wh.1 a 1 (cA := E.2.2.2.1.2.1) (x := (n, .inl (gi μ (a + 4)))) hw rfl rfl hd k1
      | 2, _ => exact va_alen fx.1 fx.2.1 ks.1 wh.1 a 2 (cA := E.2.2.2.1.2.2) (x := (n, .inr (.inr (.inr (.inr (fun j => ra E (gr μ (a + 4) j))))))) hw rfl rfl hd k1
      | q + 3, hs => exact absurd hs (by dsimp only; omega)
  · cases hr
/-! answers -/
theorem rto_some {v : LV} {ty : FieldType} (h : M.2.2.2 = some ty) : rto E M v = some (tv E v) := by unfold rto; rw [h]
theorem rto_none {v : LV} (h : M.2.2.2 = none) : rto E M v = none := by unfold rto; rw [h]
theorem J_iret {v : Int32} (hd : decode M.2.1 pc = .ok (.ireturn, 1)) (hret : M.2.2.2 = some .int) (hc : cells ≤ R.cells) (hs : slots ≤ R.slots) : J E M R (QR E M R) cells slots μ pc lv [.inl v] (some (.inl v, μ)) := by
  intro r hr p e s m args below meth c ls H locs fx ks wh lo hl
  cases hr
  refine W.widen hc hs ?_
  exact W.iret fx.1 fx.2.1 (fx.2.2.2.2.2.1.trans hret) (fun t ht hW => ⟨by rw [rto_some hret]; rfl, by rw [ht]; exact wh⟩) lo hd fx.2.2.2.2.2.2.1
theorem J_zret {v : Int32} (hd : decode M.2.1 pc = .ok (.ireturn, 1)) (hret : M.2.2.2 = some .boolean) (hn : narrow .boolean (.int v) = .int v) (hc : cells ≤ R.cells) (hs : slots ≤ R.slots) : J E M R (QR E M R) cells slots μ pc lv [.inl v] (some (.inl v, μ)) := by
  intro r hr p e s m args below meth c ls H locs fx ks wh lo hl
  cases hr
  refine W.widen hc hs ?_
  exact W.zret fx.1 fx.2.1 (fx.2.2.2.2.2.1.trans hret) hn (fun t ht hW => ⟨by rw [rto_some hret]; rfl, by rw [ht]; exact wh⟩) lo hd fx.2.2.2.2.2.2.1
theorem J_vret (hd : decode M.2.1 pc = .ok (.return_, 1)) (hret : M.2.2.2 = none) (hc : cells ≤ R.cells) (hs : slots ≤ R.slots) : J E M R (QR E M R) cells slots μ pc lv [] (some (.inl 0, μ)) := by
  intro r hr p e s m args below meth c ls H locs fx ks wh lo hl
  cases hr
  refine W.widen hc hs ?_
  exact W.vret fx.1 fx.2.1 (fx.2.2.2.2.2.1.trans hret) (fun t ht hW => ⟨by rw [rto_none hret], by rw [ht]; exact wh⟩) lo hd fx.2.2.2.2.2.2.1
theorem J_aret {h : Nat} {ty : FieldType} (hd : decode M.2.1 pc = .ok (.areturn, 1)) (hret : M.2.2.2 = some ty) (hty : (∃ n, ty = .object n) ∨ ∃ t, ty = .array t) (hc : cells ≤ R.cells) (hs : slots ≤ R.slots) : J E M R (QR E M R) cells slots μ pc lv [.inr h] (some (.inr h, μ)) := by
  intro r hr p e s m args below meth c ls H locs fx ks wh lo hl
  cases hr
  refine W.widen hc hs ?_
  exact W.aret (v := va_rf (ra E h)) fx.1 fx.2.1 (fx.2.2.2.2.2.1.trans hret) hty (by cases ra E h with | none => exact Or.inl rfl | some a => exact Or.inr ⟨a, rfl⟩) (fun t ht hW => ⟨by rw [rto_some hret]; rfl, by rw [ht]; exact wh⟩) lo hd fx.2.2.2.2.2.2.1
def zr (v : Int32) (μ : Mem) : Option (LV × Mem) := if v = 0 ∨ v = 1 then some (.inl v, μ) else none
theorem J_zretV {v : Int32} (hd : decode M.2.1 pc = .ok (.ireturn, 1)) (hret : M.2.2.2 = some .boolean) (hc : cells ≤ R.cells) (hs : slots ≤ R.slots) : J E M R (QR E M R) cells slots μ pc lv [.inl v] (zr v μ) := by
  intro r hr
  unfold zr at hr
  split at hr
  · rename_i hv
    exact J_zret hd hret (by rcases hv with h | h <;> subst h <;> rfl) hc hs r hr
  · cases hr
end AR
