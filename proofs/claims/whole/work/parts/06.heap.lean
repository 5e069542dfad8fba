/-! the rows that read and write cells -/
theorem shp_si (μ : Mem) (h k : Nat) (x : Int32) (b : Nat) : shp (si μ h k x) b = shp μ b := rfl
theorem shp_sr (μ : Mem) (h k : Nat) (x : Nat) (b : Nat) : shp (sr μ h k x) b = shp μ b := rfl
theorem gi_si (μ : Mem) (h k : Nat) (x : Int32) (b j : Nat) : gi (si μ h k x) b j = if b = h ∧ j = k then x else gi μ b j := rfl
theorem gr_si (μ : Mem) (h k : Nat) (x : Int32) (b j : Nat) : gr (si μ h k x) b j = gr μ b j := rfl
theorem gi_sr (μ : Mem) (h k : Nat) (x : Nat) (b j : Nat) : gi (sr μ h k x) b j = gi μ b j := rfl
theorem gr_sr (μ : Mem) (h k : Nat) (x : Nat) (b j : Nat) : gr (sr μ h k x) b j = if b = h ∧ j = k then x else gr μ b j := rfl
theorem shp_nw (μ : Mem) (s : Nat × Nat) (b : Nat) : shp (nw μ s) b = if b = μ.1 + 4 then s else shp μ b := by
  unfold shp nw
  by_cases h1 : b = 1
  · subst h1
    rw [if_pos rfl, if_pos rfl, if_neg (by omega)]
  · rw [if_neg h1, if_neg h1]
    by_cases h2 : b = μ.1 + 4
    · subst h2
      rw [if_pos (by dsimp only; omega), if_pos rfl]
      exact if_pos rfl
    · rw [if_neg h2]
      by_cases h3 : 4 ≤ b ∧ b < μ.1 + 4
      · rw [if_pos h3, if_pos (by dsimp only; omega)]
        exact if_neg h2
      · rw [if_neg h3, if_neg (by dsimp only; omega)]
theorem gi_nw (μ : Mem) (s : Nat × Nat) (b j : Nat) : gi (nw μ s) b j = if b = μ.1 + 4 then 0 else gi μ b j := rfl
theorem gr_nw (μ : Mem) (s : Nat × Nat) (b j : Nat) : gr (nw μ s) b j = if b = μ.1 + 4 then 0 else gr μ b j := rfl
theorem cellOf_si (E : EV) (μ : Mem) {h k : Nat} (x : Int32) {b : Nat} (hb : b ≠ h) : cellOf E (si μ h k x) b = cellOf E μ b := by
  have e : gi (si μ h k x) b = gi μ b := funext fun j => by rw [gi_si, if_neg (fun q => hb q.1)]
  have e2 : ∀ c, fval E (si μ h k x) c b = fval E μ c b := fun c => funext fun j => by unfold fval; rw [e, gr_si]
  unfold cellOf
  rw [shp_si]
  unfold cellS
  split <;> first | rw [e] | rw [e2] | rfl
theorem cellOf_sr (E : EV) (μ : Mem) {h k : Nat} (x : Nat) {b : Nat} (hb : b ≠ h) : cellOf E (sr μ h k x) b = cellOf E μ b := by
  have e : gr (sr μ h k x) b = gr μ b := funext fun j => by rw [gr_sr, if_neg (fun q => hb q.1)]
  have e2 : ∀ c, fval E (sr μ h k x) c b = fval E μ c b := fun c => funext fun j => by unfold fval; rw [e, gi_sr]
  unfold cellOf
  rw [shp_sr]
  unfold cellS
  split
  · rfl
  · rfl
  · rw [e]
  · rw [e2]
theorem cellOf_nw (E : EV) (μ : Mem) (s : Nat × Nat) {b : Nat} (hb : b ≠ μ.1 + 4) : cellOf E (nw μ s) b = cellOf E μ b := by
  have e : gr (nw μ s) b = gr μ b := funext fun j => by rw [gr_nw, if_neg hb]
  have e1 : gi (nw μ s) b = gi μ b := funext fun j => by rw [gi_nw, if_neg hb]
  have e2 : ∀ c, fval E (nw μ s) c b = fval E μ c b := fun c => funext fun j => by unfold fval; rw [e, e1]
  unfold cellOf
  rw [shp_nw, if_neg hb]
  unfold cellS
  split
  · rw [e1]
  · rw [e1]
  · rw [e]
  · rw [e2]
theorem shp_at {μ : Mem} {h : Nat} {s : Nat × Nat} (hs : shp μ h = s) (h1 : s ≠ (2, 0)) (h2 : s ≠ (999, 0)) : ∃ a, h = a + 4 ∧ a < μ.1 := by
  unfold shp at hs
  split at hs
  · exact absurd hs.symm h1
  · split at hs
    · exact ⟨h - 4, by omega, by omega⟩
    · exact absurd hs.symm h2
theorem cell_at {E : EV} {μ : Mem} {h : Nat} {s : Nat × Nat} (hs : shp μ h = s) (h1 : s ≠ (2, 0)) (h2 : s ≠ (999, 0)) : ∃ a, h = a + 4 ∧ a < μ.1 ∧ (wl E μ)[a]? = some (E.2.1.size + a, cellS E μ h s) := by
  obtain ⟨a, rfl, ha⟩ := shp_at hs h1 h2
  exact ⟨a, rfl, ha, by rw [wl_get E μ ha]; unfold cellOf; rw [hs]⟩
theorem WH_put {E : EV} {μ μ' : Mem} {H H' : Heap} {a : Nat} (h : WH E μ H) (hz : H'.size = H.size) (ho : ∀ q, q ≠ E.2.1.size + a → H'[q]? = H[q]?) (hn : μ'.1 = μ.1) (hc : ∀ b, b < μ.1 → b ≠ a → cellOf E μ' (b + 4) = cellOf E μ (b + 4)) (ha : va_at E.2.2.1 classes (E.2.1.size + a, cellOf E μ' (a + 4)) H') : WH E μ' H' := by
  refine ⟨fun k q hq => ?_, fun q hq => ?_, by rw [hz, hn]; exact h.2.2⟩
  · obtain ⟨hk, rfl⟩ := wl_inv E μ' hq
    by_cases hka : k = a
    · subst hka; exact ha
    · rw [hn] at hk
      have h1 := h.1 k _ (wl_get E μ hk)
      rw [hc k hk hka]
      exact h1.kept (ho _ (by dsimp only; omega))
  · rw [ho q (by omega)]; exact h.2.1 q hq
theorem WH_new {E : EV} {μ : Mem} {s : Nat × Nat} {H H' : Heap} (h : WH E μ H) (hz : H'.size = H.size + 1) (ho : ∀ q, q < H.size → H'[q]? = H[q]?) (ha : va_at E.2.2.1 classes (E.2.1.size + μ.1, cellOf E (nw μ s) (μ.1 + 4)) H') : WH E (nw μ s) H' := by
  have hs := h.2.2
  refine ⟨fun k q hq => ?_, fun q hq => ?_, by rw [hz, hs]; show _ = _ + (μ.1 + 1); omega⟩
  · obtain ⟨hk, rfl⟩ := wl_inv E (nw μ s) hq
    have hk : k < μ.1 + 1 := hk
    by_cases hka : k = μ.1
    · subst hka; exact ha
    · have hk2 : k < μ.1 := by omega
      have h1 := h.1 k _ (wl_get E μ hk2)
      rw [cellOf_nw E μ s (by omega)]
      exact h1.kept (ho _ (by dsimp only; omega))
  · rw [ho q (by omega)]; exact h.2.1 q hq
abbrev inb (i : Int32) (n : Nat) : Prop := 0 ≤ i ∧ i.toNatClampNeg < n
theorem inb_vp {i : Int32} {n : Nat} (h : inb i n) : vp_in i n := fun q => by
  rcases q with q | q
  · exact absurd h.1 (Int32.not_le.mpr q)
  · exact absurd h.2 (Nat.not_lt.mpr q)
def gI (ci h k : Nat) (μ : Mem) (K : Int32 → Option (LV × Mem)) : Option (LV × Mem) := if shp μ h = (ci + 3, 0) then K (gi μ h k) else none
def gR (ci h k : Nat) (μ : Mem) (K : Nat → Option (LV × Mem)) : Option (LV × Mem) := if shp μ h = (ci + 3, 0) then K (gr μ h k) else none
def pI (ci h k : Nat) (x : Int32) (μ : Mem) (K : Mem → Option (LV × Mem)) : Option (LV × Mem) := if shp μ h = (ci + 3, 0) then K (si μ h k x) else none
def pR (ci h k : Nat) (x : Nat) (μ : Mem) (K : Mem → Option (LV × Mem)) : Option (LV × Mem) := if shp μ h = (ci + 3, 0) then K (sr μ h k x) else none
def aI (h : Nat) (i : Int32) (μ : Mem) (K : Int32 → Option (LV × Mem)) : Option (LV × Mem) := if (shp μ h).1 = 0 ∧ inb i (shp μ h).2 then K (gi μ h i.toNatClampNeg) else none
def aS (h : Nat) (i x : Int32) (μ : Mem) (K : Mem → Option (LV × Mem)) : Option (LV × Mem) := if (shp μ h).1 = 0 ∧ inb i (shp μ h).2 then K (si μ h i.toNatClampNeg x) else none
def zI (h : Nat) (i : Int32) (μ : Mem) (K : Int32 → Option (LV × Mem)) : Option (LV × Mem) := if (shp μ h).1 = 1 ∧ inb i (shp μ h).2 then K (gi μ h i.toNatClampNeg) else none
def zS (h : Nat) (i x : Int32) (μ : Mem) (K : Mem → Option (LV × Mem)) : Option (LV × Mem) := if (shp μ h).1 = 1 ∧ inb i (shp μ h).2 then K (si μ h i.toNatClampNeg (vp_nar .boolean x)) else none
def rI (h : Nat) (i : Int32) (μ : Mem) (K : Nat → Option (LV × Mem)) : Option (LV × Mem) := if ¬ h = 1 ∧ (shp μ h).1 = 2 ∧ inb i (shp μ h).2 then K (gr μ h i.toNatClampNeg) else none
def aL (h : Nat) (μ : Mem) (K : Int32 → Option (LV × Mem)) : Option (LV × Mem) := if (shp μ h).1 < 3 then K (Int32.ofNat (shp μ h).2) else none
theorem shp_1 (μ : Mem) : shp μ 1 = (2, 0) := rfl
theorem sh_ne {μ : Mem} {h k n : Nat} (hs : shp μ h = (k, n)) (hk : ¬ k = 2) (hk2 : ¬ k = 999) : ∃ a, h = a + 4 ∧ a < μ.1 := shp_at hs (fun q => hk (Prod.mk.inj q).1) (fun q => hk2 (Prod.mk.inj q).1)
section HR
variable {E : EV} {M : MI} {R : Room} {Q : LV × Mem → List Frame → Array Value → State → State → Prop} {cells slots pc : Nat} {μ : Mem} {lv : List (Option LV)} {st : List LV} {F : Option (LV × Mem)}
/-- what an instruction on a field needs of the tables -/
abbrev FOk (own : String) (ci index k : Nat) (C : String) (T : u_T) (N : Nat) (ref : String) : Prop :=
  ci < 900 ∧ classes[ci]? = some (C, T, N) ∧ (∀ w ∈ u_ws C T N, w ∈ gtbl) ∧ k < N ∧ Cond.fieldLink own index ref (T k).2.1 (T k).2.2.1 ∈ gtbl ∧ (ref = (T k).1 ∨ Cond.sameField ref (T k).1 (T k).2.1 (T k).2.2.1 ∈ gtbl)
theorem nfl_eq {ci N : Nat} {C : String} {T : u_T} (hc : classes[ci]? = some (C, T, N)) : nfl ci = N := by unfold nfl; rw [hc]
theorem fs_get {E : EV} {μ : Mem} {ci h k N : Nat} (hk : k < N) : ((List.range N).map (fval E μ ci h))[k]? = some (fval E μ ci h k) := by simp [hk]
theorem same_of {args : Array Value} {s : State} {ref O n d : String} (hts : ∀ w ∈ gtbl, w.before args s = true) (h : ref = O ∨ Cond.sameField ref O n d ∈ gtbl) : ∀ x, s.fieldFound? O n d = some x → s.fieldFound? ref n d = some x := by
  intro x hx
  rcases h with h | h
  · rw [h]; exact hx
  · exact u_same (hts _ h) x hx
theorem getf_row {ci index k : Nat} {C : String} {T : u_T} {N : Nat} {ref : String} {h : Nat} (hd : decode M.2.1 pc = .ok (.getfield index, 3)) (fo : FOk M.1.cls ci index k C T N ref) (hs : shp μ h = (ci + 3, 0))
    {p : Program} {e : Env} {s : State} {m : MethodId} {args : Array Value} {below : List Frame} {meth : Method} {c : Code} {ls : Array Slot} {H : Heap} {locs : List Loc} {QQ : State → Prop} {rest : List Value} (fx : Fx M p s m args meth c) (ks : KS E s) (wh : WH E μ H)
    (kk : W p E.1 e R s m args below meth c H locs cells slots QQ (F0 m (pc + 3) ls (fval E μ ci h k :: rest))) : W p E.1 e R s m args below meth c H locs cells slots QQ (F0 m pc ls (tv E (.inr h) :: rest)) := by
  obtain ⟨hci, hc, hin, hk, hlk, hsm⟩ := fo
  obtain ⟨a, rfl, ha, hw⟩ := cell_at (E := E) hs (by simp <;> omega) (by simp <;> omega)
  have hw2 : (wl E μ)[a]? = some (E.2.1.size + a, .inr (ci, (List.range (nfl ci)).map (fval E μ ci (a + 4)))) := hw
  rw [nfl_eq hc] at hw2
  exact va_get (D := E.2.2.1) (ci := ci) (v := fval E μ ci (a + 4) k) fx.1 fx.2.1 fx.2.2.2.2.1 hin fx.2.2.2.1 ks.1 wh.1 a hw2 hc k hk (fx.2.2.2.2.1 _ hlk) (same_of fx.2.2.2.2.1 hsm) (fs_get hk) hd kk
theorem J_gI {ci index k : Nat} {C : String} {T : u_T} {N : Nat} {ref : String} {h : Nat} {K : Int32 → Option (LV × Mem)} (hd : decode M.2.1 pc = .ok (.getfield index, 3)) (fo : FOk M.1.cls ci index k C T N ref) (hr0 : isr ci k = false)
    (kk : ∀ v, J E M R Q cells slots μ (pc + 3) lv (.inl v :: st) (K v)) : J E M R Q cells slots μ pc lv (.inr h :: st) (gI ci h k μ K) := by
  intro r hr p e s m args below meth c ls H locs fx ks wh lo hl
  unfold gI at hr
  split at hr
  · rename_i hs
    refine getf_row hd fo hs fx ks wh ?_
    rw [show fval E μ ci h k = .int (gi μ h k) by unfold fval; rw [hr0]; rfl]
    exact kk _ r hr p e s m args below meth c ls H locs fx ks wh lo hl
  · cases hr
theorem J_gR {ci index k : Nat} {C : String} {T : u_T} {N : Nat} {ref : String} {h : Nat} {K : Nat → Option (LV × Mem)} (hd : decode M.2.1 pc = .ok (.getfield index, 3)) (fo : FOk M.1.cls ci index k C T N ref) (hr0 : isr ci k = true)
    (kk : ∀ v, J E M R Q cells slots μ (pc + 3) lv (.inr v :: st) (K v)) : J E M R Q cells slots μ pc lv (.inr h :: st) (gR ci h k μ K) := by
  intro r hr p e s m args below meth c ls H locs fx ks wh lo hl
  unfold gR at hr
  split at hr
  · rename_i hs
    refine getf_row hd fo hs fx ks wh ?_
    rw [show fval E μ ci h k = va_rf (ra E (gr μ h k)) by unfold fval; rw [hr0]; rfl]
    exact kk _ r hr p e s m args below meth c ls H locs fx ks wh lo hl
  · cases hr
/-- what a store to a field needs beside -/
abbrev POk (M : MI) (k : Nat) (T : u_T) (N : Nat) (ty0 : Nat → FieldType) : Prop :=
  (∀ k, k < N → parseFieldDescriptor (T k).2.2.1 = some (ty0 k)) ∧ (∀ a, a < N → ∀ b, b < N → a ≠ b → (T a).2.1 ≠ (T b).2.1) ∧ ((T k).2.2.2 = false ∨ ((T k).2.2.2 = true ∧ M.1.name = "<init>" ∧ (T k).1 = M.1.cls))
theorem putf_row {ci index k : Nat} {C : String} {T : u_T} {N : Nat} {ref : String} {ty0 : Nat → FieldType} {h : Nat} {v : Value} {μ' : Mem} (hd : decode M.2.1 pc = .ok (.putfield index, 3)) (fo : FOk M.1.cls ci index k C T N ref) (po : POk M k T N ty0) (hn : narrow (ty0 k) v = v) (hf : fits (ty0 k) v = true) (hs : shp μ h = (ci + 3, 0))
    (hm : μ'.1 = μ.1) (hsh : shp μ' h = shp μ h) (hv : fval E μ' ci h k = v) (hvo : ∀ j, j ≠ k → fval E μ' ci h j = fval E μ ci h j) (hco : ∀ b, b ≠ h → cellOf E μ' b = cellOf E μ b)
    {p : Program} {e : Env} {s : State} {m : MethodId} {args : Array Value} {below : List Frame} {meth : Method} {c : Code} {ls : Array Slot} {H : Heap} {locs : List Loc} {QQ : State → Prop} {rest : List Value} (fx : Fx M p s m args meth c) (ks : KS E s) (wh : WH E μ H) (lo : ∀ q ∈ locs, AE E q.base)
    (kk : ∀ (H' : Heap) (locs' : List Loc), WH E μ' H' → (∀ q ∈ locs', AE E q.base) → W p E.1 e R s m args below meth c H' locs' cells slots QQ (F0 m (pc + 3) ls rest)) : W p E.1 e R s m args below meth c H locs cells slots QQ (F0 m pc ls (v :: tv E (.inr h) :: rest)) := by
  obtain ⟨hci, hc, hin, hk, hlk, hsm⟩ := fo
  obtain ⟨hty, hnm, hfin⟩ := po
  obtain ⟨a, rfl, ha, hw⟩ := cell_at (E := E) hs (by simp <;> omega) (by simp <;> omega)
  have hw2 : (wl E μ)[a]? = some (E.2.1.size + a, .inr (ci, (List.range (nfl ci)).map (fval E μ ci (a + 4)))) := hw
  rw [nfl_eq hc] at hw2
  have hts := fx.2.2.2.2.1
  have hap := va_apart (own := M.1.cls) hts hin ty0 hty hnm ks.1 hc
  obtain ⟨r0, h1, cell, q1, q2, q3, q4⟩ := wh.1 a _ hw2
  have hr : r0 = (C, T, N) := Option.some.inj (h1.symm.trans hc)
  subst hr
  obtain ⟨hS, hfc, kC, hkC, hkind⟩ := ks.1.1 ci _ hc
  obtain ⟨cf, kf, fi, f, hi, hsl⟩ := hS k hk
  have hst := (u_facts hfc hkC (u_lays hts hin hk) hi).1
  have hend : ∀ H' : Heap, H'[E.2.1.size + a]? = some (cell.setSlot (E.2.2.1.2 ci k) v) → H'.size = H.size → (∀ q, q ≠ E.2.1.size + a → H'[q]? = H[q]?) → WH E μ' H' := by
    intro H' e1 e2 e3
    refine WH_put wh e2 e3 hm (fun b _ hb => hco (b + 4) (by omega)) ?_
    have hce : cellOf E μ' (a + 4) = .inr (ci, (List.range N).map (fval E μ' ci (a + 4))) := by
      unfold cellOf
      rw [hsh, hs]
      show (Sum.inr (ci, (List.range (nfl ci)).map (fval E μ' ci (a + 4))) : va_E) = _
      rw [nfl_eq hc]
    rw [hce]
    refine ⟨_, hc, t_OB.to (V := updV (vp_V ((List.range N).map (fval E μ ci (a + 4)))) k v) ⟨_, e1, q2, q3, t_set q4 hap hk v⟩ (fun j hj => ?_)⟩
    by_cases hjk : j = k
    · subst hjk
      simp [updV, vp_V, hj, hv]
    · simp [updV, vp_V, hj, hjk, hvo j hjk]
  rcases hfin with hfin | ⟨hfin, hini, hdecl⟩
  · have hlay := hts _ (hin _ (u_in_lay hk))
    unfold u_lay at hlay
    rw [if_neg (by rw [hfin]; decide)] at hlay
    have h6 := u_store hfc hkC hkind hlay hi (hty k hk) hn hf
    refine W.putK fx.1 fx.2.1 (f := f) ⟨fx.2.2.2.1, fx.2.2.2.2.1 _ hlk, ⟨_, _, _, same_of hts hsm _ hi⟩, hst⟩ (by rw [q2]; exact h6) q1 q3 (by rw [hsl]; exact k2_hasslot (q4 k hk)) rfl rfl hd fun H' e1 e2 e3 => ?_
    rw [hsl] at e1 ⊢
    refine kk H' _ (hend H' e1 e2 e3) (fun q hq => ?_)
    rcases List.mem_append.mp hq with hq | hq
    · exact lo q hq
    · simp at hq; subst hq; show E.2.1.size ≤ E.2.1.size + a; omega
  · have hlay := hts _ (hin _ (u_in_lay hk))
    unfold u_lay at hlay
    rw [if_pos hfin] at hlay
    have hcf : m.cls = cf := by
      obtain ⟨_, _, c', _, _, _, -, -, hf', -, -, -, hown2, -⟩ := Cond.laysFinal_spec hlay
      have e1 : c' = cf := by have := hi.symm.trans hf'; simp at this; exact this.1.symm
      rw [hdecl] at hown2
      rw [← e1]; exact Option.some.inj (fx.2.2.2.1.symm.trans hown2)
    have h6 := u_fits hfc hkC hkind (Or.inr hlay) hi (hty k hk) hn hf
    refine W.putFinK fx.1 fx.2.1 fx.2.2.2.1 (fx.2.2.2.2.1 _ hlk) (same_of hts hsm _ hi) hst hcf (fx.2.2.2.2.2.2.2.trans hini) (by rw [q2]; exact h6) q1 q3 (by rw [hsl]; exact k2_hasslot (q4 k hk)) rfl rfl hd fun H' e1 e2 e3 => ?_
    rw [hsl] at e1 ⊢
    refine kk H' _ (hend H' e1 e2 e3) (fun q hq => ?_)
    rcases List.mem_append.mp hq with hq | hq
    · exact lo q hq
    · simp at hq; subst hq; show E.2.1.size ≤ E.2.1.size + a; omega
theorem J_pI {ci index k : Nat} {C : String} {T : u_T} {N : Nat} {ref : String} {ty0 : Nat → FieldType} {h : Nat} {x : Int32} {K : Mem → Option (LV × Mem)} (hd : decode M.2.1 pc = .ok (.putfield index, 3)) (fo : FOk M.1.cls ci index k C T N ref) (po : POk M k T N ty0) (hty : ty0 k = .int) (hr0 : isr ci k = false)
    (kk : ∀ μ', J E M R Q cells slots μ' (pc + 3) lv st (K μ')) : J E M R Q cells slots μ pc lv (.inl x :: .inr h :: st) (pI ci h k x μ K) := by
  intro r hr p e s m args below meth c ls H locs fx ks wh lo hl
  unfold pI at hr
  split at hr
  · rename_i hs
    refine putf_row (μ' := si μ h k x) (v := .int x) hd fo po (by rw [hty]; rfl) (by rw [hty]; rfl) hs rfl rfl ?_ ?_ (fun b hb => cellOf_si E μ x hb) fx ks wh lo (fun H' locs' wh' lo' => kk _ r hr p e s m args below meth c ls H' locs' fx ks wh' lo' hl)
    · simp [fval, hr0, gi_si]
    · intro j hj; simp [fval, gi_si, gr_si, hj]
  · cases hr
theorem J_pR {ci index k : Nat} {C : String} {T : u_T} {N : Nat} {ref : String} {ty0 : Nat → FieldType} {h : Nat} {x : Nat} {K : Mem → Option (LV × Mem)} (hd : decode M.2.1 pc = .ok (.putfield index, 3)) (fo : FOk M.1.cls ci index k C T N ref) (po : POk M k T N ty0) (hty : (∃ n, ty0 k = .object n) ∨ (∃ t, ty0 k = .array t)) (hr0 : isr ci k = true)
    (kk : ∀ μ', J E M R Q cells slots μ' (pc + 3) lv st (K μ')) : J E M R Q cells slots μ pc lv (.inr x :: .inr h :: st) (pR ci h k x μ K) := by
  intro r hr p e s m args below meth c ls H locs fx ks wh lo hl
  unfold pR at hr
  split at hr
  · rename_i hs
    refine putf_row (μ' := sr μ h k x) (v := va_rf (ra E x)) hd fo po ?_ ?_ hs rfl rfl ?_ ?_ (fun b hb => cellOf_sr E μ x hb) fx ks wh lo (fun H' locs' wh' lo' => kk _ r hr p e s m args below meth c ls H' locs' fx ks wh' lo' hl)
    · rcases hty with ⟨n, h⟩ | ⟨t, h⟩ <;> rw [h] <;> cases ra E x <;> rfl
    · rcases hty with ⟨n, h⟩ | ⟨t, h⟩ <;> rw [h] <;> cases ra E x <;> rfl
    · simp [fval, hr0, gr_sr]
    · intro j hj; simp [fval, gi_sr, gr_sr, hj]
  · cases hr
end HR
