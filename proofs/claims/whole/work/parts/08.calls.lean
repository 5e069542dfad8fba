/-! new cells, constants, casts; calls -/
def nO (μ : Mem) (s : Nat × Nat) (K : Nat → Mem → Option (LV × Mem)) : Option (LV × Mem) := K (μ.1 + 4) (nw μ s)
def nR (n : Int32) (μ : Mem) (K : Nat → Mem → Option (LV × Mem)) : Option (LV × Mem) := if 0 ≤ n ∧ n.toNatClampNeg ≤ 64 then K (μ.1 + 4) (nw μ (2, n.toNatClampNeg)) else none
def bI (x : Option (LV × Mem)) (G : Int32 → Mem → Option (LV × Mem)) : Option (LV × Mem) := match x with
  | some (.inl v, μ) => G v μ
  | _ => none
def bR (x : Option (LV × Mem)) (G : Nat → Mem → Option (LV × Mem)) : Option (LV × Mem) := match x with
  | some (.inr v, μ) => G v μ
  | _ => none
def bV (x : Option (LV × Mem)) (G : Mem → Option (LV × Mem)) : Option (LV × Mem) := match x with
  | some (_, μ) => G μ
  | none => none
def cV (ci h : Nat) (μ : Mem) (X : Option (LV × Mem)) : Option (LV × Mem) := if shp μ h = (ci + 3, 0) then X else none
def cN (h : Nat) (X : Option (LV × Mem)) : Option (LV × Mem) := if h = 0 then none else X
def cC (ci h : Nat) (μ : Mem) (X : Option (LV × Mem)) : Option (LV × Mem) := if h = 0 ∨ shp μ h = (ci + 3, 0) then X else none
section CR
variable {E : EV} {M : MI} {R : Room} {Q : LV × Mem → List Frame → Array Value → State → State → Prop} {cells slots pc : Nat} {μ : Mem} {lv : List (Option LV)} {st : List LV} {F : Option (LV × Mem)}
theorem J_ldc {index : Nat} {v : Int32} (hd : decode M.2.1 pc = .ok (.ldc index, 2)) (hw : Cond.constant M.1.cls index v ∈ gtbl) (k : J E M R Q cells slots μ (pc + 2) lv (.inl v :: st) F) : J E M R Q cells slots μ pc lv st F := by
  intro r hr p e s m args below meth c ls H locs fx ks wh lo hl
  exact lv_ldc fx.1 fx.2.1 fx.2.2.2.1 (fx.2.2.2.2.1 _ hw) hd (k r hr p e s m args below meth c ls H locs fx ks wh lo hl)
abbrev NOk (M : MI) (ci index : Nat) (C : String) (T : u_T) (N : Nat) (ty0 : Nat → FieldType) : Prop :=
  classes[ci]? = some (C, T, N) ∧ (∀ w ∈ u_ws C T N, w ∈ gtbl) ∧ (∀ k, k < N → parseFieldDescriptor (T k).2.2.1 = some (ty0 k)) ∧ (∀ k, k < N → defaultValue (ty0 k) = if isr ci k = true then .null else .int 0) ∧
  Cond.classLink M.1.cls index C ∈ gtbl ∧ Cond.instantiable C N ∈ gtbl ∧ Cond.initialized C ∈ gtbl
theorem J_new {ci index N : Nat} {C : String} {T : u_T} {ty0 : Nat → FieldType} {K : Nat → Mem → Option (LV × Mem)} (hd : decode M.2.1 pc = .ok (.new index, 3)) (no : NOk M ci index C T N ty0) (hcl : cells + 1 ≤ R.cells) (hsl : slots + N ≤ R.slots)
    (kk : ∀ h μ', J E M R Q (cells + 1) (slots + N) μ' (pc + 3) lv (.inr h :: st) (K h μ')) : J E M R Q cells slots μ pc lv st (nO μ (ci + 3, 0) K) := by
  intro r hr p e s m args below meth c ls H locs fx ks wh lo hl
  obtain ⟨hc, hin, hty, hdef, hlk, hins, hini⟩ := no
  have hts := fx.2.2.2.2.1
  have hKn := ks.1.1 ci _ hc
  refine W.newcK fx.1 fx.2.1 fx.2.2.2.1 (hts _ hlk) (hts _ hins) (hts _ hini) rfl hd hcl hsl hKn.2.1 wh.2.2 fun H1 kC hkC e1 z1 o1 => ?_
  refine kk _ _ r hr p e s m args below meth c ls H1 locs fx ks (WH_new wh (by rw [z1, wh.2.2]) (fun q hq => o1 q (by rw [← wh.2.2]; exact hq)) ?_) lo hl
  have hce : cellOf E (nw μ (ci + 3, 0)) (μ.1 + 4) = .inr (ci, (List.range N).map (fval E (nw μ (ci + 3, 0)) ci (μ.1 + 4))) := by
    unfold cellOf
    rw [shp_nw, if_pos rfl]
    show (Sum.inr (ci, (List.range (nfl ci)).map (fval E (nw μ (ci + 3, 0)) ci (μ.1 + 4))) : va_E) = _
    rw [nfl_eq hc]
  rw [hce]
  refine ⟨_, hc, (u_born ty0 hts hin hKn hkC e1 hty).to (fun j hj => ?_)⟩
  rw [hdef j hj]
  show _ = ((List.range N).map (fval E (nw μ (ci + 3, 0)) ci (μ.1 + 4))).getD j .null
  rw [List.getD_eq_getElem?_getD, fs_get hj]
  simp only [Option.getD_some, fval, gi_nw, gr_nw, if_true]
  rfl
theorem J_newa {n : Int32} {N : Nat} {K : Nat → Mem → Option (LV × Mem)} (hd : decode M.2.1 pc = .ok (.newarray .int, 2)) (hw : Cond.arrayClass .int ∈ gtbl) (h0 : ¬ n < 0) (hN : n.toNatClampNeg = N) (hb : N * 4 ≤ 536870912) (hcl : cells + 1 ≤ R.cells) (hsl : slots + N ≤ R.slots)
    (kk : ∀ h μ', J E M R Q (cells + 1) (slots + N) μ' (pc + 2) lv (.inr h :: st) (K h μ')) : J E M R Q cells slots μ pc lv (.inl n :: st) (nO μ (0, N) K) := by
  intro r hr p e s m args below meth c ls H locs fx ks wh lo hl
  refine va_newaK (atype := .int) fx.1 fx.2.1 (fx.2.2.2.2.1 _ hw) rfl hd rfl h0 hN hb hcl hsl wh.2.2 fun H1 cA e1 z1 o1 hAr hNm => ?_
  have hcA : cA = E.2.2.2.1.1 := by
    have h1 : s.vm.findClass ("[" ++ (FieldType.int).toString) = some E.2.2.2.1.1 := (ks.1.2 0 _ rfl).2
    exact Option.some.inj (hNm.symm.trans h1)
  subst hcA
  refine kk _ _ r hr p e s m args below meth c ls H1 locs fx ks (WH_new wh (by rw [z1, wh.2.2]) (fun q hq => o1 q (by rw [← wh.2.2]; exact hq)) ?_) lo hl
  unfold cellOf
  rw [shp_nw, if_pos rfl]
  show H1[E.2.1.size + μ.1]? = some (vp_cell E.2.2.2.1.1 (N, .inl (gi (nw μ (0, N)) (μ.1 + 4))))
  rw [e1, vp_cell_i]
  congr 2
  funext j
  rw [gi_nw, if_pos rfl]
  rfl
theorem J_newz {n : Int32} {N : Nat} {K : Nat → Mem → Option (LV × Mem)} (hd : decode M.2.1 pc = .ok (.newarray .boolean, 2)) (hw : Cond.arrayClass .boolean ∈ gtbl) (h0 : ¬ n < 0) (hN : n.toNatClampNeg = N) (hb : N * 1 ≤ 536870912) (hcl : cells + 1 ≤ R.cells) (hsl : slots + N ≤ R.slots)
    (kk : ∀ h μ', J E M R Q (cells + 1) (slots + N) μ' (pc + 2) lv (.inr h :: st) (K h μ')) : J E M R Q cells slots μ pc lv (.inl n :: st) (nO μ (1, N) K) := by
  intro r hr p e s m args below meth c ls H locs fx ks wh lo hl
  refine va_newaK (atype := .boolean) fx.1 fx.2.1 (fx.2.2.2.2.1 _ hw) rfl hd rfl h0 hN hb hcl hsl wh.2.2 fun H1 cA e1 z1 o1 hAr hNm => ?_
  have hcA : cA = E.2.2.2.1.2.1 := by
    have h1 : s.vm.findClass ("[" ++ (FieldType.boolean).toString) = some E.2.2.2.1.2.1 := (ks.1.2 1 _ rfl).2
    exact Option.some.inj (hNm.symm.trans h1)
  subst hcA
  refine kk _ _ r hr p e s m args below meth c ls H1 locs fx ks (WH_new wh (by rw [z1, wh.2.2]) (fun q hq => o1 q (by rw [← wh.2.2]; exact hq)) ?_) lo hl
  unfold cellOf
  rw [shp_nw, if_pos rfl]
  show H1[E.2.1.size + μ.1]? = some (vp_cell E.2.2.2.1.2.1 (N, .inl (gi (nw μ (1, N)) (μ.1 + 4))))
  rw [e1, vp_cell_i]
  congr 2
  funext j
  rw [gi_nw, if_pos rfl]
  rfl
/-! calls -/
theorem blind_of (E : EV) (μ : Mem) (av : List Value) : FrameBlind (va_Pc av (fun U => WH E μ U.heap ∧ KS E U)) := fun a U g mk q => by
  obtain ⟨q0, q1, q2⟩ := q
  exact ⟨q0, q1, KS.same (s := U) (U := U.calling g mk a) rfl q2⟩
theorem st_room (E : EV) (m : MethodId) (pc : Nat) (ls : Array Slot) (x : List Value) {st : List LV} (h : st.length ≤ 8) : 2 * (F0 m pc ls x).monitorRoom + ((st.map (tv E)).map fun v => v.category).sum ≤ 8 := by
  have hs : ∀ l : List LV, ((l.map (tv E)).map fun v => v.category).sum = l.length := by
    intro l
    induction l with
    | nil => rfl
    | cons a t ih => simp only [List.map_cons, List.sum_cons, List.length_cons, tv_cat, ih]; omega
  exact lv_room (by rw [hs]; exact h)
/-- what a method needs of the tables to be called, with n arguments beside its receiver -/
abbrev MOk (M' : MI) (n : Nat) : Prop := Cond.code M'.1 M'.2.1 M'.2.2.1 M'.2.2.2 ∈ gtbl ∧ Cond.initialized M'.1.cls ∈ gtbl ∧ (M'.1.cls ≠ "java/lang/invoke/MethodHandle" ∧ M'.1.cls ≠ "java/lang/invoke/VarHandle" ∧ (parseMethodDescriptor M'.1.desc).map (fun d => d.parameters.length) = some n)
abbrev ROk (M' : MI) (R R' : Room) : Prop := R'.frames + 1 ≤ R.frames ∧ 8 + (M'.2.2.1 + 11) + R'.locals ≤ R.locals
theorem good_wsy {M' : MI} {n : Nat} (mo : MOk M' n) : GoodIn gtbl (wsy M') := by
  intro w hw
  rcases List.mem_cons.mp hw with rfl | hw
  · exact gtbl_self _ mo.1
  · exact gtbl_self _ hw
theorem callB_row {M' : MI} {R' : Room} {n index : Nat} {s : State} {args : Array Value} (hts : ∀ w ∈ gtbl, w.before args s = true) (mo : MOk M' n) (ro : ROk M' R R') (hl : Cond.methodLink M.1.cls index M'.1 ∈ gtbl) :
    CallB R s args M.1.cls index M'.1 M'.2.1 M'.2.2.1 M'.2.2.2 (wsy M') R' R'.cells R'.slots n :=
  callB_of n hts (good_wsy mo) rfl rfl rfl (hts _ mo.2.1) (hts _ hl) mo.2.2 ro
/-- behind a call -/
theorem call_fin {M' : MI} {R' : Room} {r' : LV × Mem} {QQ : State → Prop} {av : Array Value} {p : Program} {e : Env} {s : State} {m : MethodId} {args : Array Value} {below : List Frame} {meth : Method} {c : Code} {ls : Array Slot} {H : Heap} {locs : List Loc} {st0 : List Value}
    (hr : CallRun p E.1 e R s m args below meth c H locs cells slots R'.cells R'.slots (F0 m pc ls st0) (st.map (tv E)) (Qr E M' r' av) (AE E)) (lo : ∀ q ∈ locs, AE E q.base)
    (kk : ∀ (H1 : Heap) (locs1 : List Loc), WH E r'.2 H1 → (∀ q ∈ locs1, AE E q.base) → W p E.1 e R s m args below meth c H1 locs1 (cells + R'.cells) (slots + R'.slots) QQ (F0 m (pc + 3) ls ((rto E M' r'.1).toList ++ st.map (tv E)))) : W p E.1 e R s m args below meth c H locs cells slots QQ (F0 m pc ls st0) := by
  intro T hT X
  obtain ⟨v, st₀, t, T', L, h0, X', hL, e1, ⟨hv, hw⟩, stp⟩ := hr T hT X
  cases hv
  obtain ⟨t2, a1, b1⟩ := kk T'.heap (locs ++ L) (by rw [e1]; exact hw) (fun q hq => by
    rcases List.mem_append.mp hq with hq | hq
    · exact lo q hq
    · exact hL q hq) T' rfl X'
  exact ⟨t2, stp t2 a1, b1⟩
theorem runV_row {M' : MI} {R' : Room} {as : List LV} {h ci index n N : Nat} {T : u_T} {F' : Option (LV × Mem)} {r' : LV × Mem} (hd : decode M.2.1 pc = .ok (.invokevirtual index, 3)) (mo : MOk M' n) (ro : ROk M' R R') (hl : Cond.methodLink M.1.cls index M'.1 ∈ gtbl) (hi : Cond.instanceMethod M'.1 ∈ gtbl) (hse : Cond.selects M'.1.cls M'.1 M'.1 ∈ gtbl)
    (hci : ci < 900) (hcl : classes[ci]? = some (M'.1.cls, T, N)) (hn : as.length = n) (h8 : st.length ≤ 8) (hrm : cells + R'.cells ≤ R.cells ∧ slots + R'.slots ≤ R.slots) (hC : Ct E M' R' (.inr h :: as) μ F') (hF : F' = some r') (hs : shp μ h = (ci + 3, 0))
    {p : Program} {e : Env} {s : State} {m : MethodId} {args : Array Value} {below : List Frame} {meth : Method} {c : Code} {ls : Array Slot} {H : Heap} {locs : List Loc} (fx : Fx M p s m args meth c) (ks : KS E s) (wh : WH E μ H) (hl2 : LVok E ls M.2.2.1 lv) :
    ∃ av, CallRun p E.1 e R s m args below meth c H locs cells slots R'.cells R'.slots (F0 m pc ls ((as.reverse ++ .inr h :: st).map (tv E))) (st.map (tv E)) (Qr E M' r' av) (AE E) := by
  obtain ⟨a, rfl, ha, hw⟩ := cell_at (E := E) hs (by simp <;> omega) (by simp <;> omega)
  have hts := fx.2.2.2.2.1
  have hcw : CallW R s args M.1.cls M'.1.cls index M'.1 M'.2.1 M'.2.2.1 M'.2.2.2 (wsy M') R' R'.cells R'.slots n := ⟨callB_row hts mo ro hl, hts _ hi, hts _ hse⟩
  refine ⟨_, W.runV (As := as.map (tv E)) (b := E.2.1.size + a) ⟨fx.1, fx.2.1, fx.2.2.1, fx.2.2.2.1, hts⟩ (hC r' hF) hcw ⟨blind_of E μ _, ?_, fun U hU hW => ⟨rfl, by rw [hU]; exact wh, ks.warm hW⟩⟩ rfl (by rw [List.length_map]; exact hn) hl2.1 ?_ (st_room E m pc ls _ h8) hd hrm⟩
  · exact va_recv (q := (M'.1.cls, T, N)) ks.1 wh.1 hcl (q0 := a) (ci := ci) hw
  · show (as.reverse ++ .inr (a + 4) :: st).map (tv E) = _
    rw [List.map_append, List.map_reverse]
    rfl
theorem J_callVi {M' : MI} {R' : Room} {as : List LV} {h ci index n N : Nat} {T : u_T} {F' : Option (LV × Mem)} {ty : FieldType} {G : Int32 → Mem → Option (LV × Mem)} {stk : List LV} (hd : decode M.2.1 pc = .ok (.invokevirtual index, 3)) (mo : MOk M' n) (ro : ROk M' R R') (hl : Cond.methodLink M.1.cls index M'.1 ∈ gtbl) (hi : Cond.instanceMethod M'.1 ∈ gtbl) (hse : Cond.selects M'.1.cls M'.1 M'.1 ∈ gtbl)
    (hci : ci < 900) (hcl : classes[ci]? = some (M'.1.cls, T, N)) (hn : as.length = n) (h8 : st.length ≤ 8) (hrm : cells + R'.cells ≤ R.cells ∧ slots + R'.slots ≤ R.slots) (hret : M'.2.2.2 = some ty) (hstk : as.reverse ++ .inr h :: st = stk) (hC : Ct E M' R' (.inr h :: as) μ F')
    (kk : ∀ v μ', J E M R Q (cells + R'.cells) (slots + R'.slots) μ' (pc + 3) lv (.inl v :: st) (G v μ')) : J E M R Q cells slots μ pc lv stk (cV ci h μ (bI F' G)) := by
  intro r hr p e s m args below meth c ls H locs fx ks wh lo hl2
  subst hstk
  unfold cV at hr
  split at hr
  · rename_i hs
    match F', hC, hr with
    | some (.inl v, μ'), hC, hr =>
      obtain ⟨av, hrun⟩ := runV_row (below := below) (meth := meth) (c := c) (e := e) (locs := locs) hd mo ro hl hi hse hci hcl hn h8 hrm hC rfl hs fx ks wh hl2
      refine call_fin hrun lo (fun H1 locs1 wh1 lo1 => ?_)
      rw [rto_some hret]
      exact kk v μ' r hr p e s m args below meth c ls H1 locs1 fx ks wh1 lo1 hl2
    | some (.inr v, μ'), hC, hr => cases hr
    | none, hC, hr => cases hr
  · cases hr
theorem J_callVr {M' : MI} {R' : Room} {as : List LV} {h ci index n N : Nat} {T : u_T} {F' : Option (LV × Mem)} {ty : FieldType} {G : Nat → Mem → Option (LV × Mem)} {stk : List LV} (hd : decode M.2.1 pc = .ok (.invokevirtual index, 3)) (mo : MOk M' n) (ro : ROk M' R R') (hl : Cond.methodLink M.1.cls index M'.1 ∈ gtbl) (hi : Cond.instanceMethod M'.1 ∈ gtbl) (hse : Cond.selects M'.1.cls M'.1 M'.1 ∈ gtbl)
    (hci : ci < 900) (hcl : classes[ci]? = some (M'.1.cls, T, N)) (hn : as.length = n) (h8 : st.length ≤ 8) (hrm : cells + R'.cells ≤ R.cells ∧ slots + R'.slots ≤ R.slots) (hret : M'.2.2.2 = some ty) (hstk : as.reverse ++ .inr h :: st = stk) (hC : Ct E M' R' (.inr h :: as) μ F')
    (kk : ∀ v μ', J E M R Q (cells + R'.cells) (slots + R'.slots) μ' (pc + 3) lv (.inr v :: st) (G v μ')) : J E M R Q cells slots μ pc lv stk (cV ci h μ (bR F' G)) := by
  intro r hr p e s m args below meth c ls H locs fx ks wh lo hl2
  subst hstk
  unfold cV at hr
  split at hr
  · rename_i hs
    match F', hC, hr with
    | some (.inr v, μ'), hC, hr =>
      obtain ⟨av, hrun⟩ := runV_row (below := below) (meth := meth) (c := c) (e := e) (locs := locs) hd mo ro hl hi hse hci hcl hn h8 hrm hC rfl hs fx ks wh hl2
      refine call_fin hrun lo (fun H1 locs1 wh1 lo1 => ?_)
      rw [rto_some hret]
      exact kk v μ' r hr p e s m args below meth c ls H1 locs1 fx ks wh1 lo1 hl2
    | some (.inl v, μ'), hC, hr => cases hr
    | none, hC, hr => cases hr
  · cases hr
theorem J_callVv {M' : MI} {R' : Room} {as : List LV} {h ci index n N : Nat} {T : u_T} {F' : Option (LV × Mem)} {G : Mem → Option (LV × Mem)} {stk : List LV} (hd : decode M.2.1 pc = .ok (.invokevirtual index, 3)) (mo : MOk M' n) (ro : ROk M' R R') (hl : Cond.methodLink M.1.cls index M'.1 ∈ gtbl) (hi : Cond.instanceMethod M'.1 ∈ gtbl) (hse : Cond.selects M'.1.cls M'.1 M'.1 ∈ gtbl)
    (hci : ci < 900) (hcl : classes[ci]? = some (M'.1.cls, T, N)) (hn : as.length = n) (h8 : st.length ≤ 8) (hrm : cells + R'.cells ≤ R.cells ∧ slots + R'.slots ≤ R.slots) (hret : M'.2.2.2 = none) (hstk : as.reverse ++ .inr h :: st = stk) (hC : Ct E M' R' (.inr h :: as) μ F')
    (kk : ∀ μ', J E M R Q (cells + R'.cells) (slots + R'.slots) μ' (pc + 3) lv st (G μ')) : J E M R Q cells slots μ pc lv stk (cV ci h μ (bV F' G)) := by
  intro r hr p e s m args below meth c ls H locs fx ks wh lo hl2
  subst hstk
  unfold cV at hr
  split at hr
  · rename_i hs
    match F', hC, hr with
    | some (v, μ'), hC, hr =>
      obtain ⟨av, hrun⟩ := runV_row (below := below) (meth := meth) (c := c) (e := e) (locs := locs) hd mo ro hl hi hse hci hcl hn h8 hrm hC rfl hs fx ks wh hl2
      refine call_fin hrun lo (fun H1 locs1 wh1 lo1 => ?_)
      rw [rto_none hret]
      exact kk μ' r hr p e s m args below meth c ls H1 locs1 fx ks wh1 lo1 hl2
    | none, hC, hr => cases hr
  · cases hr
end CR
