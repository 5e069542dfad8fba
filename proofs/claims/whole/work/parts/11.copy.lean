/-! System.arraycopy; the script -/
theorem shp_mcI (μ : Mem) (a b c d e h : Nat) : shp (mcI μ a b c d e) h = shp μ h := rfl
theorem shp_mcR (μ : Mem) (a b c d e h : Nat) : shp (mcR μ a b c d e) h = shp μ h := rfl
theorem gr_mcI (μ : Mem) (a b c d e h j : Nat) : gr (mcI μ a b c d e) h j = gr μ h j := rfl
theorem gi_mcR (μ : Mem) (a b c d e h j : Nat) : gi (mcR μ a b c d e) h j = gi μ h j := rfl
theorem gi_mcI (μ : Mem) (a b c d e h j : Nat) : gi (mcI μ a b c d e) h j = if h = c then va_cpy (gi μ a) (gi μ c) b d e j else gi μ h j := rfl
theorem gr_mcR (μ : Mem) (a b c d e h j : Nat) : gr (mcR μ a b c d e) h j = if h = c then va_cpy (gr μ a) (gr μ c) b d e j else gr μ h j := rfl
theorem cellOf_mcI (E : EV) (μ : Mem) (a b c d e : Nat) {h : Nat} (hb : h ≠ c) : cellOf E (mcI μ a b c d e) h = cellOf E μ h := by
  have e1 : gi (mcI μ a b c d e) h = gi μ h := funext fun j => by rw [gi_mcI, if_neg hb]
  have e2 : ∀ q, fval E (mcI μ a b c d e) q h = fval E μ q h := fun q => funext fun j => by unfold fval; rw [e1, gr_mcI]
  unfold cellOf
  rw [shp_mcI]
  unfold cellS
  split
  · rw [e1]
  · rw [e1]
  · rfl
  · rw [e2]
theorem cellOf_mcR (E : EV) (μ : Mem) (a b c d e : Nat) {h : Nat} (hb : h ≠ c) : cellOf E (mcR μ a b c d e) h = cellOf E μ h := by
  have e1 : gr (mcR μ a b c d e) h = gr μ h := funext fun j => by rw [gr_mcR, if_neg hb]
  have e2 : ∀ q, fval E (mcR μ a b c d e) q h = fval E μ q h := fun q => funext fun j => by unfold fval; rw [e1, gi_mcR]
  unfold cellOf
  rw [shp_mcR]
  unfold cellS
  split
  · rfl
  · rfl
  · rw [e1]
  · rw [e2]
theorem cp_nn : ∀ z : Int32, ¬ z < 0 → z.toInt = (z.toNatClampNeg : Int) := by
  intro z hz
  have hz0 : (0 : Int) ≤ z.toInt := by
    have := Int32.not_lt.mp hz
    simpa using Int32.le_iff_toInt_le.mp this
  show z.toInt = ((z.toInt.toNat : Nat) : Int)
  omega
theorem cpy_map {α β : Type} (φ : α → β) (f g : Nat → α) (sp dp n j : Nat) : va_cpy (fun i => φ (f i)) (fun i => φ (g i)) sp dp n j = φ (va_cpy f g sp dp n j) := by
  unfold va_cpy
  split <;> rfl
section CP
variable {E : EV} {M : MI} {R : Room} {Q : LV × Mem → List Frame → Array Value → State → State → Prop} {cells slots pc : Nat} {μ : Mem} {lv : List (Option LV)} {st : List LV} {F : Option (LV × Mem)}
theorem J_cpI {hs hd' index : Nat} {sp dp n : Int32} {K : Mem → Option (LV × Mem)} (hd : decode M.2.1 pc = .ok (.invokestatic index, 3)) (hlk : Cond.methodLink M.1.cls index arraycopyName ∈ gtbl) (hna : Cond.native arraycopyName ∈ gtbl) (hst : Cond.static arraycopyName ∈ gtbl) (hin : Cond.initialized "java/lang/System" ∈ gtbl) (h8 : st.length ≤ 8) (hf : 1 ≤ R.frames) (hlo : 40 ≤ R.locals)
    (kk : ∀ μ', J E M R Q cells slots μ' (pc + 3) lv st (K μ')) : J E M R Q cells slots μ pc lv (.inl n :: .inl dp :: .inr hd' :: .inl sp :: .inr hs :: st) (cpI hs sp hd' dp n μ K) := by
  intro r hr p e s m args below meth c ls H locs fx ks wh lo hl
  unfold cpI at hr
  split at hr
  · rename_i hq
    obtain ⟨q0, q1, h1, h2, h3, h4, h5⟩ := hq
    generalize hsx : shp μ hs = sx at q0 h4
    generalize hdx : shp μ hd' = dx at q1 h5
    obtain ⟨k0, n0⟩ := sx
    obtain ⟨k1, n1⟩ := dx
    dsimp only at q0 q1 h4 h5
    subst q0; subst q1
    obtain ⟨a0, rfl, ha0, hw0⟩ := cell_at (E := E) hsx (by simp) (by simp)
    obtain ⟨a, rfl, ha, hw⟩ := cell_at (E := E) hdx (by simp) (by simp)
    have hts := fx.2.2.2.2.1
    have hc0 : H[E.2.1.size + a0]? = some (vp_cell E.2.2.2.1.1 (n0, .inl (gi μ (a0 + 4)))) := wh.1 a0 _ hw0
    have hc1 : H[E.2.1.size + a]? = some (vp_cell E.2.2.2.1.1 (n1, .inl (gi μ (a + 4)))) := wh.1 a _ hw
    obtain ⟨-, kk0, hk0, cm0, hkk0⟩ := (ks.1.2 0 _ rfl).1 n0 (fun j => .int (gi μ (a0 + 4) j))
    obtain ⟨-, kk1, hk1, cm1, hkk1⟩ := (ks.1.2 0 _ rfl).1 n1 (fun j => .int (gi μ (a + 4) j))
    have h9 := st_room E m pc ls [] h8
    have h9' : ((st.map (tv E)).map fun v => v.category).sum ≤ 8 := by
      have : 2 * (F0 m pc ls []).monitorRoom = 0 := rfl
      omega
    have hnf : nativeFrameWords "java/lang/System" "arraycopy" 5 + 11 ≤ 32 := by decide +kernel
    intro T hT X
    obtain ⟨vm', X', step⟩ := X.arraycopy fx.1 fx.2.2.2.1 (hts _ hlk) (hts _ hna) (hts _ hst) (hts _ hin) (src := E.2.1.size + a0) (dst := E.2.1.size + a) (cs := vp_cell E.2.2.2.1.1 (n0, .inl (gi μ (a0 + 4)))) (cd := vp_cell E.2.2.2.1.1 (n1, .inl (gi μ (a + 4)))) (srcPos := sp) (destPos := dp) (n := n) (by rw [hT]; exact hc0) (by rw [hT]; exact hc1)
      (fun _ h => by cases h) (fun _ h => by cases h) (fun h => by cases h) (fun h => by cases h) hk0 hk1 hkk0 hkk1 rfl h1 h2 h3
      (by rw [cp_nn sp h1, cp_nn n h3]; show ¬ _ > ((arrV _ n0 (fun j => .int (gi μ (a0 + 4) j))).slots.size : Int); rw [arrV_size]; omega)
      (by rw [cp_nn dp h2, cp_nn n h3]; show ¬ _ > ((arrV _ n1 (fun j => .int (gi μ (a + 4) j))).slots.size : Int); rw [arrV_size]; omega)
      (fun vm₁ _ i hi => by
        have e : (vp_cell E.2.2.2.1.1 (n0, .inl (gi μ (a0 + 4)))).slots.getD (sp.toNatClampNeg + i) .null = .int (gi μ (a0 + 4) (sp.toNatClampNeg + i)) := by
          show (arrV _ n0 (fun j => .int (gi μ (a0 + 4) j))).slots.getD _ _ = _
          rw [Array.getD_eq_getD_getElem?, arrV_read _ _ (by omega)]
          rfl
        refine ⟨?_, ?_⟩
        · rw [e]; rfl
        · rw [e]; exact trivial)
      (g := F0 m pc ls (.int n :: .int dp :: .ref (E.2.1.size + a) :: .int sp :: .ref (E.2.1.size + a0) :: st.map (tv E))) rfl (by rw [fx.2.2.1]; exact hl.1) (rest := st.map (tv E)) rfl (by rw [fx.2.1]; exact hd) hf (by show 2 * 0 + _ + _ ≤ _; omega)
    have e1 : copied (vp_cell E.2.2.2.1.1 (n0, .inl (gi μ (a0 + 4)))) (vp_cell E.2.2.2.1.1 (n1, .inl (gi μ (a + 4)))) sp dp n = vp_cell E.2.2.2.1.1 (n1, .inl (va_cpy (gi μ (a0 + 4)) (gi μ (a + 4)) sp.toNatClampNeg dp.toNatClampNeg n.toNatClampNeg)) := va_copied (fun z => .int z) _ _ (gi μ (a0 + 4)) (gi μ (a + 4)) h4
    rw [e1] at X' step
    have hlt : E.2.1.size + a < H.size := (Array.getElem?_eq_some_iff.mp hc1).1
    have hheap : ((T.setVm vm').setCell (E.2.1.size + a) (vp_cell E.2.2.2.1.1 (n1, .inl (va_cpy (gi μ (a0 + 4)) (gi μ (a + 4)) sp.toNatClampNeg dp.toNatClampNeg n.toNatClampNeg)))).heap = H.setIfInBounds (E.2.1.size + a) (vp_cell E.2.2.2.1.1 (n1, .inl (va_cpy (gi μ (a0 + 4)) (gi μ (a + 4)) sp.toNatClampNeg dp.toNatClampNeg n.toNatClampNeg))) := by rw [← hT]; rfl
    obtain ⟨t, a1, b1⟩ := kk _ r hr p e s m args below meth c ls _ _ fx ks (WH_put (a := a) wh (by simp) (fun q hq => by simp [Array.getElem?_setIfInBounds, Ne.symm hq]) rfl (fun b _ hb => cellOf_mcI E μ _ _ _ _ _ (by omega)) (by
        unfold cellOf
        rw [shp_mcI, hdx]
        show (H.setIfInBounds (E.2.1.size + a) _)[E.2.1.size + a]? = some (vp_cell E.2.2.2.1.1 (n1, .inl (gi (mcI μ (a0 + 4) sp.toNatClampNeg (a + 4) dp.toNatClampNeg n.toNatClampNeg) (a + 4))))
        rw [show gi (mcI μ (a0 + 4) sp.toNatClampNeg (a + 4) dp.toNatClampNeg n.toNatClampNeg) (a + 4) = va_cpy (gi μ (a0 + 4)) (gi μ (a + 4)) sp.toNatClampNeg dp.toNatClampNeg n.toNatClampNeg from funext fun j => by rw [gi_mcI, if_pos rfl]]
        simp [Array.getElem?_setIfInBounds, hlt])) (fun q hq => by
        rcases List.mem_append.mp hq with h | h
        · exact lo q h
        · obtain ⟨z, -, hz⟩ := List.mem_map.mp h
          rw [← hz]
          show E.2.1.size ≤ E.2.1.size + a
          omega) hl _ hheap X'
    exact ⟨t, step t a1, b1⟩
  · cases hr
theorem J_cpR {hs hd' index : Nat} {sp dp n : Int32} {K : Mem → Option (LV × Mem)} (hd : decode M.2.1 pc = .ok (.invokestatic index, 3)) (hlk : Cond.methodLink M.1.cls index arraycopyName ∈ gtbl) (hna : Cond.native arraycopyName ∈ gtbl) (hst : Cond.static arraycopyName ∈ gtbl) (hin : Cond.initialized "java/lang/System" ∈ gtbl) (h8 : st.length ≤ 8) (hf : 1 ≤ R.frames) (hlo : 40 ≤ R.locals)
    (kk : ∀ μ', J E M R Q cells slots μ' (pc + 3) lv st (K μ')) : J E M R Q cells slots μ pc lv (.inl n :: .inl dp :: .inr hd' :: .inl sp :: .inr hs :: st) (cpR hs sp hd' dp n μ K) := by
  intro r hr p e s m args below meth c ls H locs fx ks wh lo hl
  unfold cpR at hr
  split at hr
  · rename_i hq
    obtain ⟨g1, g2, q0, q1, h1, h2, h3, h4, h5, hel⟩ := hq
    generalize hsx : shp μ hs = sx at q0 h4
    generalize hdx : shp μ hd' = dx at q1 h5
    obtain ⟨k0, n0⟩ := sx
    obtain ⟨k1, n1⟩ := dx
    dsimp only at q0 q1 h4 h5
    subst q0; subst q1
    obtain ⟨a0, rfl, ha0, hw0⟩ := row_at (E := E) g1 hsx
    obtain ⟨a, rfl, ha, hw⟩ := row_at (E := E) g2 hdx
    have hts := fx.2.2.2.2.1
    have hc0 : H[E.2.1.size + a0]? = some (vp_cell E.2.2.2.1.2.2 (n0, .inr (.inr (.inr (.inr (fun j => ra E (gr μ (a0 + 4) j))))))) := wh.1 a0 _ hw0
    have hc1 : H[E.2.1.size + a]? = some (vp_cell E.2.2.2.1.2.2 (n1, .inr (.inr (.inr (.inr (fun j => ra E (gr μ (a + 4) j))))))) := wh.1 a _ hw
    obtain ⟨-, kk0, hk0, cm0, hkk0⟩ := (ks.1.2 2 _ rfl).1 n0 (fun j => va_rf (ra E (gr μ (a0 + 4) j)))
    obtain ⟨-, kk1, hk1, cm1, hkk1⟩ := (ks.1.2 2 _ rfl).1 n1 (fun j => va_rf (ra E (gr μ (a + 4) j)))
    have h9 := st_room E m pc ls [] h8
    have h9' : ((st.map (tv E)).map fun v => v.category).sum ≤ 8 := by
      have : 2 * (F0 m pc ls []).monitorRoom = 0 := rfl
      omega
    have hnf : nativeFrameWords "java/lang/System" "arraycopy" 5 + 11 ≤ 32 := by decide +kernel
    intro T hT X
    obtain ⟨vm', X', step⟩ := X.arraycopy fx.1 fx.2.2.2.1 (hts _ hlk) (hts _ hna) (hts _ hst) (hts _ hin) (src := E.2.1.size + a0) (dst := E.2.1.size + a) (cs := vp_cell E.2.2.2.1.2.2 (n0, .inr (.inr (.inr (.inr (fun j => ra E (gr μ (a0 + 4) j))))))) (cd := vp_cell E.2.2.2.1.2.2 (n1, .inr (.inr (.inr (.inr (fun j => ra E (gr μ (a + 4) j))))))) (srcPos := sp) (destPos := dp) (n := n) (by rw [hT]; exact hc0) (by rw [hT]; exact hc1)
      (fun _ h => by cases h) (fun _ h => by cases h) (fun h => by cases h) (fun h => by cases h) hk0 hk1 hkk0 hkk1 rfl h1 h2 h3
      (by rw [cp_nn sp h1, cp_nn n h3]; show ¬ _ > ((arrV _ n0 (fun j => va_rf (ra E (gr μ (a0 + 4) j)))).slots.size : Int); rw [arrV_size]; omega)
      (by rw [cp_nn dp h2, cp_nn n h3]; show ¬ _ > ((arrV _ n1 (fun j => va_rf (ra E (gr μ (a + 4) j)))).slots.size : Int); rw [arrV_size]; omega)
      (fun vm₁ hal i hi => by
        have e : (vp_cell E.2.2.2.1.2.2 (n0, .inr (.inr (.inr (.inr (fun j => ra E (gr μ (a0 + 4) j))))))).slots.getD (sp.toNatClampNeg + i) .null = va_rf (ra E (gr μ (a0 + 4) (sp.toNatClampNeg + i))) := by
          show (arrV _ n0 (fun j => va_rf (ra E (gr μ (a0 + 4) j)))).slots.getD _ _ = _
          rw [Array.getD_eq_getD_getElem?, arrV_read _ _ (by omega)]
          rfl
        rw [e]
        rcases hel i hi with hz | hz
        · rw [hz]
          exact ⟨rfl, trivial⟩
        · obtain ⟨y, hy, hany⟩ := okv_any ks wh hz
          rw [hy]
          obtain ⟨cellV, f1, f2, ⟨kC, hkC⟩, hasg⟩ := hany
          obtain ⟨kA, comp, r1, r2, r3, -⟩ := (ks.1.2 2 _ rfl).2
          cases hk1.symm.trans r1
          cases hkk1.symm.trans r2
          obtain ⟨kE, hkE, -⟩ := Vm.findClass_spec r3
          obtain ⟨kC', hkC', -⟩ := hal.2.2 _ _ hkC
          obtain ⟨kE', hkE', -⟩ := hal.2.2 _ _ hkE
          refine ⟨rfl, cellV, (show T.heap[y]? = some cellV by rw [hT]; exact f1), (fun q h => by rw [h] at f2; cases f2), ⟨kC', hkC'⟩, ?_, ?_⟩
          · exact ⟨kE', hkE'⟩
          · show vm₁.assignable _ _ = true
            rw [hal.assignable]
            exact hasg _ r3)
      (g := F0 m pc ls (.int n :: .int dp :: .ref (E.2.1.size + a) :: .int sp :: .ref (E.2.1.size + a0) :: st.map (tv E))) rfl (by rw [fx.2.2.1]; exact hl.1) (rest := st.map (tv E)) rfl (by rw [fx.2.1]; exact hd) hf (by show 2 * 0 + _ + _ ≤ _; omega)
    have e1 : copied (vp_cell E.2.2.2.1.2.2 (n0, .inr (.inr (.inr (.inr (fun j => ra E (gr μ (a0 + 4) j))))))) (vp_cell E.2.2.2.1.2.2 (n1, .inr (.inr (.inr (.inr (fun j => ra E (gr μ (a + 4) j))))))) sp dp n = vp_cell E.2.2.2.1.2.2 (n1, .inr (.inr (.inr (.inr (va_cpy (fun j => ra E (gr μ (a0 + 4) j)) (fun j => ra E (gr μ (a + 4) j)) sp.toNatClampNeg dp.toNatClampNeg n.toNatClampNeg))))) := by
      rw [vp_cell_q, vp_cell_q, vp_cell_q]
      exact va_copied (fun z => va_rf z) _ _ (fun j => ra E (gr μ (a0 + 4) j)) (fun j => ra E (gr μ (a + 4) j)) h4
    rw [e1] at X' step
    generalize hnew : vp_cell E.2.2.2.1.2.2 (n1, .inr (.inr (.inr (.inr (va_cpy (fun j => ra E (gr μ (a0 + 4) j)) (fun j => ra E (gr μ (a + 4) j)) sp.toNatClampNeg dp.toNatClampNeg n.toNatClampNeg))))) = newc at X' step
    have hlt : E.2.1.size + a < H.size := (Array.getElem?_eq_some_iff.mp hc1).1
    have hheap : ((T.setVm vm').setCell (E.2.1.size + a) newc).heap = H.setIfInBounds (E.2.1.size + a) newc := by rw [← hT]; rfl
    obtain ⟨t, a1, b1⟩ := kk _ r hr p e s m args below meth c ls _ _ fx ks (WH_put (a := a) wh (by simp) (fun q hq => by simp [Array.getElem?_setIfInBounds, Ne.symm hq]) rfl (fun b _ hb => cellOf_mcR E μ _ _ _ _ _ (by omega)) (by
        unfold cellOf
        rw [shp_mcR, hdx]
        show (H.setIfInBounds (E.2.1.size + a) _)[E.2.1.size + a]? = some (vp_cell E.2.2.2.1.2.2 (n1, .inr (.inr (.inr (.inr (fun j => ra E (gr (mcR μ (a0 + 4) sp.toNatClampNeg (a + 4) dp.toNatClampNeg n.toNatClampNeg) (a + 4) j)))))))
        rw [show (fun j => ra E (gr (mcR μ (a0 + 4) sp.toNatClampNeg (a + 4) dp.toNatClampNeg n.toNatClampNeg) (a + 4) j)) = va_cpy (fun j => ra E (gr μ (a0 + 4) j)) (fun j => ra E (gr μ (a + 4) j)) sp.toNatClampNeg dp.toNatClampNeg n.toNatClampNeg from funext fun j => by rw [gr_mcR, if_pos rfl, cpy_map (ra E)], hnew]
        simp [Array.getElem?_setIfInBounds, hlt])) (fun q hq => by
        rcases List.mem_append.mp hq with h | h
        · exact lo q h
        · obtain ⟨z, -, hz⟩ := List.mem_map.mp h
          rw [← hz]
          show E.2.1.size ≤ E.2.1.size + a
          omega) hl _ hheap X'
    exact ⟨t, step t a1, b1⟩
  · cases hr
/-! the script: handle 2 -/
theorem J_sI {i : Int32} {K : Int32 → Option (LV × Mem)} (hd : decode M.2.1 pc = .ok (.iaload, 1))
    (kk : ∀ v, J E M R Q cells slots μ (pc + 1) lv (.inl v :: st) (K v)) : J E M R Q cells slots μ pc lv (.inl i :: .inr 2 :: st) (sI E.2.2.2.2.2.2.2 E.2.2.2.2.2.2.1 i K) := by
  intro r hr p e s m args below meth c ls H locs fx ks wh lo hl
  unfold sI at hr
  split at hr
  · rename_i hi
    obtain ⟨scr, h1, h2, h3, h4, h5⟩ := ks.2.2.2.2.1
    exact W.iald (v := .int (E.2.2.2.2.2.2.2 i.toNatClampNeg)) fx.1 fx.2.1 (by rw [wh.2.1 _ ks.2.2.2.2.2.1]; exact h1) h2 h3 (by rw [h4]; exact inb_vp hi) (h5 _ hi.2) rfl rfl hd (kk _ r hr p e s m args below meth c ls H locs fx ks wh lo hl)
  · cases hr
theorem J_sL (hd : decode M.2.1 pc = .ok (.arraylength, 1)) (kk : J E M R Q cells slots μ (pc + 1) lv (.inl (Int32.ofNat E.2.2.2.2.2.2.1) :: st) F) : J E M R Q cells slots μ pc lv (.inr 2 :: st) F := by
  intro r hr p e s m args below meth c ls H locs fx ks wh lo hl
  obtain ⟨scr, h1, h2, h3, h4, h5⟩ := ks.2.2.2.2.1
  exact W.alen (n := Int32.ofNat E.2.2.2.2.2.2.1) fx.1 fx.2.1 (by rw [wh.2.1 _ ks.2.2.2.2.2.1]; exact h1) h2 (by rw [h4] <;> rfl) rfl rfl hd (kk r hr p e s m args below meth c ls H locs fx ks wh lo hl)
end CP
