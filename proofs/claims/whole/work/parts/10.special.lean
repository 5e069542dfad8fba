/-! switches; what the library's list needs; the script -/
def aq (h1 h2 : Nat) (F1 F2 : Option (LV × Mem)) : Option (LV × Mem) := if h1 = h2 then F1 else if (4 ≤ h1 ∨ 4 ≤ h2) ∧ ¬ h1 = 3 ∧ ¬ h2 = 3 then F2 else none
abbrev okv (μ : Mem) (v : Nat) : Prop := (shp μ v).2 = 0 ∧ ((shp μ v).1 = 3 ∨ (shp μ v).1 = 4 ∨ (shp μ v).1 = 7 ∨ (shp μ v).1 = 9)
def rS (h : Nat) (i : Int32) (v : Nat) (μ : Mem) (K : Mem → Option (LV × Mem)) : Option (LV × Mem) := if ¬ h = 1 ∧ (shp μ h).1 = 2 ∧ inb i (shp μ h).2 ∧ okv μ v then K (sr μ h i.toNatClampNeg v) else none
def mcI (μ : Mem) (hs sp hd dp n : Nat) : Mem := (μ.1, μ.2.1, fun a j => if a = hd then va_cpy (gi μ hs) (gi μ hd) sp dp n j else μ.2.2.1 a j, μ.2.2.2)
def mcR (μ : Mem) (hs sp hd dp n : Nat) : Mem := (μ.1, μ.2.1, μ.2.2.1, fun a j => if a = hd then va_cpy (gr μ hs) (gr μ hd) sp dp n j else μ.2.2.2 a j)
def cpI (hs : Nat) (sp : Int32) (hd : Nat) (dp n : Int32) (μ : Mem) (K : Mem → Option (LV × Mem)) : Option (LV × Mem) :=
  if (shp μ hs).1 = 0 ∧ (shp μ hd).1 = 0 ∧ ¬ sp < 0 ∧ ¬ dp < 0 ∧ ¬ n < 0 ∧ sp.toNatClampNeg + n.toNatClampNeg ≤ (shp μ hs).2 ∧ dp.toNatClampNeg + n.toNatClampNeg ≤ (shp μ hd).2 then K (mcI μ hs sp.toNatClampNeg hd dp.toNatClampNeg n.toNatClampNeg) else none
def cpR (hs : Nat) (sp : Int32) (hd : Nat) (dp n : Int32) (μ : Mem) (K : Mem → Option (LV × Mem)) : Option (LV × Mem) :=
  if ¬ hs = 1 ∧ ¬ hd = 1 ∧ (shp μ hs).1 = 2 ∧ (shp μ hd).1 = 2 ∧ ¬ sp < 0 ∧ ¬ dp < 0 ∧ ¬ n < 0 ∧ sp.toNatClampNeg + n.toNatClampNeg ≤ (shp μ hs).2 ∧ dp.toNatClampNeg + n.toNatClampNeg ≤ (shp μ hd).2 ∧ (∀ i, i < n.toNatClampNeg → gr μ hs (sp.toNatClampNeg + i) = 0 ∨ okv μ (gr μ hs (sp.toNatClampNeg + i))) then K (mcR μ hs sp.toNatClampNeg hd dp.toNatClampNeg n.toNatClampNeg) else none
def gC (h : Nat) (μ : Mem) (X : Option (LV × Mem)) : Option (LV × Mem) := if ¬ h = 1 ∧ (shp μ h).1 = 2 then X else none
def sI (xs : Nat → Int32) (L : Nat) (i : Int32) (K : Int32 → Option (LV × Mem)) : Option (LV × Mem) := if inb i L then K (xs i.toNatClampNeg) else none
theorem sw_out {x : Int32} {lo hi : Int} (vs : List Int32) (hv : ∀ v ∈ vs, ¬ x = v) (hc : (List.range (hi - lo + 1).toNat).all (fun k => vs.any (fun v => v.toInt == lo + (k : Int))) = true) : x.toInt < lo ∨ hi < x.toInt := by
  rcases Int.lt_or_le x.toInt lo with h | h
  · exact Or.inl h
  · rcases Int.lt_or_le hi x.toInt with h2 | h2
    · exact Or.inr h2
    · have h3 := List.all_eq_true.mp hc (x.toInt - lo).toNat (List.mem_range.mpr (by omega))
      obtain ⟨v, hm, he⟩ := List.any_eq_true.mp h3
      have he2 : v.toInt = lo + ((x.toInt - lo).toNat : Int) := by simpa using he
      exact absurd (Int32.toInt_inj.mp (by rw [he2]; omega)) (hv v hm)
section SP
variable {E : EV} {M : MI} {R : Room} {Q : LV × Mem → List Frame → Array Value → State → State → Prop} {cells slots pc : Nat} {μ : Mem} {lv : List (Option LV)} {st : List LV} {F : Option (LV × Mem)}
theorem J_swc {x v : Int32} {F1 F2 : Option (LV × Mem)} {stk : List LV} (k1 : x = v → J E M R Q cells slots μ pc lv stk F1) (k2 : ¬ x = v → J E M R Q cells slots μ pc lv stk F2) : J E M R Q cells slots μ pc lv stk (if x = v then F1 else F2) := by
  by_cases h : x = v
  · rw [if_pos h]; exact k1 h
  · rw [if_neg h]; exact k2 h
theorem J_swIn {x v : Int32} {dflt lo hi : Int} {offs : Array Int} {len : Nat} {off : Int} {tgt : Nat} (hd : decode M.2.1 pc = .ok (.tableswitch dflt lo hi offs, len)) (hx : x = v) (h1 : ¬ v.toInt < lo) (h2 : ¬ hi < v.toInt) (ho : offs[(v.toInt - lo).toNat]? = some off) (ht : (pc : Int) + off = (tgt : Int))
    (k : J E M R Q cells slots μ tgt lv st F) : J E M R Q cells slots μ pc lv (.inl x :: st) F := by
  intro r hr p e s m args below meth c ls H locs fx ks wh lo hl
  subst hx
  exact lv_tableIn fx.1 fx.2.1 hd h1 h2 ho ht (k r hr p e s m args below meth c ls H locs fx ks wh lo hl)
theorem J_swOut {x : Int32} {dflt lo hi : Int} {offs : Array Int} {len : Nat} {tgt : Nat} (hd : decode M.2.1 pc = .ok (.tableswitch dflt lo hi offs, len)) (h : x.toInt < lo ∨ hi < x.toInt) (ht : (pc : Int) + dflt = (tgt : Int))
    (k : J E M R Q cells slots μ tgt lv st F) : J E M R Q cells slots μ pc lv (.inl x :: st) F := by
  intro r hr p e s m args below meth c ls H locs fx ks wh lo hl
  exact lv_tableOut fx.1 fx.2.1 hd h ht (k r hr p e s m args below meth c ls H locs fx ks wh lo hl)
theorem J_gets {index : Nat} (hd : decode M.2.1 pc = .ok (.getstatic index, 3)) (hw : Cond.fieldLink M.1.cls index "java/util/ArrayList" "DEFAULTCAPACITY_EMPTY_ELEMENTDATA" "[Ljava/lang/Object;" ∈ gtbl) (k : J E M R Q cells slots μ (pc + 3) lv (.inr 1 :: st) F) : J E M R Q cells slots μ pc lv st F := by
  intro r hr p e s m args below meth c ls H locs fx ks wh lo hl
  obtain ⟨cf, kf, fi, f, a, cell, h1, h2, h3, h4, h5, h6, h7, h8⟩ := ks.2.1
  exact W.gets fx.1 fx.2.1 fx.2.2.2.1 (fx.2.2.2.2.1 _ hw) h1 h2 h3 h4 (by rw [wh.2.1 a (Nat.lt_of_not_le h8)]; exact h5) (fun e => by rw [e] at h6; cases h6) h7 rfl hd (k r hr p e s m args below meth c ls H locs fx ks wh lo hl)
theorem ra_inj {E : EV} (he : E.2.2.2.2.1.1 < E.2.1.size) (hb : E.2.2.2.2.2.1 < E.2.1.size) {h1 h2 : Nat} (hc : (4 ≤ h1 ∨ 4 ≤ h2) ∧ ¬ h1 = 3 ∧ ¬ h2 = 3) (e : ra E h1 = ra E h2) : h1 = h2 := by
  obtain ⟨ho, n1, n2⟩ := hc
  have key : ∀ a b : Nat, 4 ≤ a → ¬ b = 3 → ra E a = ra E b → a = b := by
    intro a b ha nb e
    obtain ⟨a, rfl⟩ : ∃ c, a = c + 4 := ⟨a - 4, by omega⟩
    match b, nb, e with
    | 0, _, e => simp [ra] at e
    | 1, _, e => simp [ra] at e; omega
    | 2, _, e => simp [ra] at e; omega
    | 3, nb, _ => exact absurd rfl nb
    | b + 4, _, e => simp [ra] at e; omega
  rcases ho with ho | ho
  · exact key h1 h2 ho n2 e
  · exact (key h2 h1 ho n1 e.symm).symm
theorem e0_lt {E : EV} {s : State} (ks : KS E s) : E.2.2.2.2.1.1 < E.2.1.size := by
  obtain ⟨cell, g1, -⟩ := ks.2.2.1
  exact (Array.getElem?_eq_some_iff.mp g1).1
theorem J_acmp_eq {h1 h2 : Nat} {off : Int} {tgt : Nat} {F1 F2 : Option (LV × Mem)} (hd : decode M.2.1 pc = .ok (.if_acmp .eq off, 3)) (ht : (pc : Int) + off = (tgt : Int)) (k1 : J E M R Q cells slots μ tgt lv st F1) (k2 : J E M R Q cells slots μ (pc + 3) lv st F2) : J E M R Q cells slots μ pc lv (.inr h2 :: .inr h1 :: st) (aq h1 h2 F1 F2) := by
  intro r hr p e s m args below meth c ls H locs fx ks wh lo hl
  unfold aq at hr
  refine lv_acmp_eq (rx := ra E h1) (ry := ra E h2) fx.1 fx.2.1 hd ht (fun hc => ?_) (fun hc => ?_)
  · by_cases hh : h1 = h2
    · rw [if_pos hh] at hr
      exact k1 r hr p e s m args below meth c ls H locs fx ks wh lo hl
    · rw [if_neg hh] at hr
      split at hr
      · rename_i hq
        exact absurd (ra_inj (e0_lt ks) ks.2.2.2.2.2.1 hq hc) hh
      · cases hr
  · by_cases hh : h1 = h2
    · exact absurd (by rw [hh]) hc
    · rw [if_neg hh] at hr
      split at hr
      · exact k2 r hr p e s m args below meth c ls H locs fx ks wh lo hl
      · cases hr
theorem J_acmp_ne {h1 h2 : Nat} {off : Int} {tgt : Nat} {F1 F2 : Option (LV × Mem)} (hd : decode M.2.1 pc = .ok (.if_acmp .ne off, 3)) (ht : (pc : Int) + off = (tgt : Int)) (k1 : J E M R Q cells slots μ tgt lv st F1) (k2 : J E M R Q cells slots μ (pc + 3) lv st F2) : J E M R Q cells slots μ pc lv (.inr h2 :: .inr h1 :: st) (aq h1 h2 F2 F1) := by
  intro r hr p e s m args below meth c ls H locs fx ks wh lo hl
  unfold aq at hr
  refine lv_acmp_ne (rx := ra E h1) (ry := ra E h2) fx.1 fx.2.1 hd ht (fun hc => ?_) (fun hc => ?_)
  · by_cases hh : h1 = h2
    · exact absurd (by rw [hh]) hc
    · rw [if_neg hh] at hr
      split at hr
      · exact k1 r hr p e s m args below meth c ls H locs fx ks wh lo hl
      · cases hr
  · by_cases hh : h1 = h2
    · rw [if_pos hh] at hr
      exact k2 r hr p e s m args below meth c ls H locs fx ks wh lo hl
    · rw [if_neg hh] at hr
      split at hr
      · rename_i hq
        exact absurd (ra_inj (e0_lt ks) ks.2.2.2.2.2.1 hq hc) hh
      · cases hr
theorem J_ldcM {index : Nat} (hd : decode M.2.1 pc = .ok (.ldc index, 2)) (hw : Cond.classLink M.1.cls index "[Ljava/lang/Object;" ∈ gtbl) (k : J E M R Q cells slots μ (pc + 2) lv (.inr 3 :: st) F) : J E M R Q cells slots μ pc lv st F := by
  intro r hr p e s m args below meth c ls H locs fx ks wh lo hl
  exact va_ldcM fx.1 fx.2.1 fx.2.2.2.1 (fx.2.2.2.2.1 _ hw) ks.2.2.2.1 hd (k r hr p e s m args below meth c ls H locs fx ks wh lo hl)
theorem row_at {E : EV} {μ : Mem} {h n : Nat} (h1 : ¬ h = 1) (hs : shp μ h = (2, n)) : ∃ a, h = a + 4 ∧ a < μ.1 ∧ (wl E μ)[a]? = some (E.2.1.size + a, .inl (E.2.2.2.1.2.2, n, .inr (.inr (.inr (.inr (fun j => ra E (gr μ h j))))))) := by
  have h4 : ∃ a, h = a + 4 ∧ a < μ.1 := by
    unfold shp at hs
    rw [if_neg h1] at hs
    split at hs
    · exact ⟨h - 4, by omega, by omega⟩
    · cases hs
  obtain ⟨a, rfl, ha⟩ := h4
  refine ⟨a, rfl, ha, ?_⟩
  rw [wl_get E μ ha]
  unfold cellOf
  rw [hs]
  rfl
def ccNm (c : Nat) : String := match c with
  | 0 => "LifeboatHouse$Boat"
  | 1 => "LifeboatHouse$Call"
  | 4 => "LifeboatHouse$Launch"
  | _ => "LifeboatHouse$Person"
theorem okv_any {E : EV} {μ : Mem} {v : Nat} {s : State} {H : Heap} (ks : KS E s) (wh : WH E μ H) (hv : okv μ v) : ∃ a, ra E v = some a ∧ va_Any "java/lang/Object" s H a := by
  obtain ⟨h2, h1⟩ := hv
  generalize hsx : shp μ v = sx at h1 h2
  obtain ⟨kq, n⟩ := sx
  dsimp only at h1 h2
  subst h2
  obtain ⟨a, rfl, ha, hw⟩ := cell_at (E := E) hsx (by intro q; have := (Prod.mk.inj q).1; omega) (by intro q; have := (Prod.mk.inj q).1; omega)
  refine ⟨_, rfl, ?_⟩
  have key : ∀ (ci : Nat) (C : String) (T : u_T) (N : Nat), kq = ci + 3 → classes[ci]? = some (C, T, N) → Cond.castable C "java/lang/Object" ∈ ntbl → va_Any "java/lang/Object" s H (E.2.1.size + a) := by
    intro ci C T N hk hc hm
    subst hk
    exact va_rAny (r := (C, T, N)) (ci := ci) ks.1 wh.1 hw hc (fun comp c0 f1 f2 => vb_asgC (ks.2.2.2.2.2.2.1 _ hm) comp c0 f1 f2)
  rcases h1 with h1 | h1 | h1 | h1
  · exact key 0 Cn_B Ft_B 4 h1 rfl (List.mem_filter.mpr ⟨by decide +kernel, rfl⟩)
  · exact key 1 Cn_C Ft_C 3 h1 rfl (List.mem_filter.mpr ⟨by decide +kernel, rfl⟩)
  · exact key 4 Cn_U Ft_U 5 h1 rfl (List.mem_filter.mpr ⟨by decide +kernel, rfl⟩)
  · exact key 6 Cn_Q Ft_Q 6 h1 rfl (List.mem_filter.mpr ⟨by decide +kernel, rfl⟩)
theorem J_rS {h : Nat} {i : Int32} {v : Nat} {K : Mem → Option (LV × Mem)} (hd : decode M.2.1 pc = .ok (.aastore, 1))
    (kk : ∀ μ', J E M R Q cells slots μ' (pc + 1) lv st (K μ')) : J E M R Q cells slots μ pc lv (.inr v :: .inl i :: .inr h :: st) (rS h i v μ K) := by
  intro r hr p e s m args below meth c ls H locs fx ks wh lo hl
  unfold rS at hr
  split at hr
  · rename_i hs
    obtain ⟨h1, h2, hi, hv⟩ := hs
    generalize hsx : shp μ h = sx at h2 hi
    obtain ⟨kq, n⟩ := sx
    dsimp only at h2 hi
    subst h2
    obtain ⟨a, rfl, ha, hw⟩ := row_at (E := E) h1 hsx
    obtain ⟨av, hav, hany⟩ := okv_any ks wh hv
    obtain ⟨cellV, g1, g3, ⟨kC, hkC⟩, hasg⟩ := hany
    obtain ⟨kA, comp, k1, k2, k3, -⟩ := (ks.1.2 2 _ rfl).2
    obtain ⟨kE, hkE, -⟩ := Vm.findClass_spec k3
    have hc : H[E.2.1.size + a]? = some (vp_cell E.2.2.2.1.2.2 (n, .inr (.inr (.inr (.inr (fun j => ra E (gr μ (a + 4) j))))))) := wh.1 a _ hw
    have htv : tv E (.inr v) = .ref av := by show va_rf (ra E v) = _; rw [hav]; rfl
    rw [List.map_cons, htv]
    refine W.aast (v := av) fx.1 fx.2.1 hc (fun q h => by cases h) (fun h => by cases h) k1 k2 rfl hkE ⟨Int32.not_lt.mpr hi.1, by show _ < (arrV _ _ _).slots.size; rw [arrV_size]; exact hi.2⟩ g1 (fun q h => by rw [h] at g3; cases g3) hkC (hasg _ k3) rfl rfl hd fun H1 e1 e2 e3 => ?_
    refine kk _ r hr p e s m args below meth c ls H1 _ fx ks (WH_put wh e2 e3 rfl (fun b _ hb => cellOf_sr E μ v (by omega)) ?_) (lo_put lo) hl
    unfold cellOf
    rw [shp_sr, hsx]
    show H1[E.2.1.size + a]? = some (vp_cell E.2.2.2.1.2.2 (n, .inr (.inr (.inr (.inr (fun j => ra E (gr (sr μ (a + 4) i.toNatClampNeg v) (a + 4) j)))))))
    rw [e1, vp_cell_q, vp_cell_q, arrV_store]
    congr 2
    funext q
    by_cases hq : q = i.toNatClampNeg
    · subst hq
      simp [updV, gr_sr, hav, va_rf]
    · simp [updV, gr_sr, hq]
  · cases hr
theorem J_nR {n : Int32} {index : Nat} {K : Nat → Mem → Option (LV × Mem)} (hd : decode M.2.1 pc = .ok (.anewarray index, 3)) (hlk : Cond.classLink M.1.cls index "java/lang/Object" ∈ gtbl) (hcl : cells + 1 ≤ R.cells) (hsl : slots + 64 ≤ R.slots)
    (kk : ∀ h μ', J E M R Q (cells + 1) (slots + 64) μ' (pc + 3) lv (.inr h :: st) (K h μ')) : J E M R Q cells slots μ pc lv (.inl n :: st) (nR n μ K) := by
  intro r hr p e s m args below meth c ls H locs fx ks wh lo hl
  unfold nR at hr
  split at hr
  · rename_i hs
    refine W.anew fx.1 fx.2.1 fx.2.2.2.1 (fx.2.2.2.2.1 _ hlk) (va_AO.use ks.2.2.2.2.2.2.2) rfl hd rfl (Int32.not_lt.mpr hs.1) (by omega) hcl (by omega) fun cA kA comp f1 f2 f3 f4 => ?_
    generalize hH1 : H.push ({ cls := cA, slots := Array.replicate n.toNatClampNeg .null, vm := .none } : Cell) = H1
    have z1 : H1.size = H.size + 1 := by rw [← hH1, Array.size_push]
    have e1 : H1[H.size]? = some (arrV cA n.toNatClampNeg (fun _ => .null)) := by rw [← hH1, Array.getElem?_push_size, ← arrV_new]
    have o1 : ∀ q : Nat, q < H.size → H1[q]? = H[q]? := fun q hq => by rw [← hH1, Array.getElem?_push, if_neg (Nat.ne_of_lt hq)]
    obtain ⟨-, -, -, -, -, k4⟩ := (ks.1.2 2 _ rfl).2
    have hcA : cA = E.2.2.2.1.2.2 := Option.some.inj (f1.symm.trans k4)
    subst hcA
    refine W.widen (k := cells + 1) (n := slots + 64) (Nat.le_refl _) (by omega) ?_
    have kr := kk _ _ r hr p e s m args below meth c ls H1 locs fx ks (WH_new wh z1 o1 ?_) lo hl
    · rw [wh.2.2]; exact kr
    · unfold cellOf
      rw [shp_nw, if_pos rfl]
      show H1[E.2.1.size + μ.1]? = some (vp_cell E.2.2.2.1.2.2 (n.toNatClampNeg, .inr (.inr (.inr (.inr (fun j => ra E (gr (nw μ (2, n.toNatClampNeg)) (μ.1 + 4) j)))))))
      rw [← wh.2.2, e1, vp_cell_q]
      congr 2
      funext j
      rw [gr_nw, if_pos rfl]
      rfl
  · cases hr
theorem J_gC {h index : Nat} (hd : decode M.2.1 pc = .ok (.invokevirtual index, 3)) (hlk : Cond.methodLink M.1.cls index ⟨"java/lang/Object", "getClass", "()Ljava/lang/Class;"⟩ ∈ gtbl) (hdc : Cond.declares ⟨"java/lang/Object", "getClass", "()Ljava/lang/Class;"⟩ ∈ ntbl)
    (hse : Cond.selects "[Ljava/lang/Object;" ⟨"java/lang/Object", "getClass", "()Ljava/lang/Class;"⟩ ⟨"java/lang/Object", "getClass", "()Ljava/lang/Class;"⟩ ∈ gtbl) (hin : Cond.instanceMethod ⟨"java/lang/Object", "getClass", "()Ljava/lang/Class;"⟩ ∈ gtbl) (hna : Cond.native ⟨"java/lang/Object", "getClass", "()Ljava/lang/Class;"⟩ ∈ gtbl)
    (hf : 1 ≤ R.frames) (h8 : st.length ≤ 8) (hlo : 24 ≤ R.locals) (kk : J E M R Q cells slots μ (pc + 3) lv (.inr 3 :: st) F) : J E M R Q cells slots μ pc lv (.inr h :: st) (gC h μ F) := by
  intro r hr p e s m args below meth c ls H locs fx ks wh lo hl
  unfold gC at hr
  split at hr
  · rename_i hs
    obtain ⟨h1, h2⟩ := hs
    generalize hsx : shp μ h = sx at h2
    obtain ⟨kq, n⟩ := sx
    dsimp only at h2
    subst h2
    obtain ⟨a, rfl, ha, hw⟩ := row_at (E := E) h1 hsx
    have hts := fx.2.2.2.2.1
    obtain ⟨-, -, -, -, -, k4⟩ := (ks.1.2 2 _ rfl).2
    have h9 := st_room E m pc ls [] h8
    have h9' : ((st.map (tv E)).map fun v => v.category).sum ≤ 8 := by
      have : 2 * (F0 m pc ls []).monitorRoom = 0 := rfl
      omega
    exact va_getC fx.1 fx.2.1 (by rw [fx.2.2.1]; exact hl.1.symm) fx.2.2.2.1 (hts _ hlk) (va_Nw.use rfl (ks.2.2.2.2.2.2.1 _ hdc)) (hts _ hse) (hts _ hin) (hts _ hna) ks.2.2.2.1 ⟨_, wh.1 a _ hw, rfl, k4⟩ hf (by omega) hd (kk r hr p e s m args below meth c ls H locs fx ks wh lo hl)
  · cases hr
end SP
