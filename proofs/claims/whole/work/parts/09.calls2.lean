/-! static methods, constructors, casts; a contract out of a walk -/
section C2
variable {E : EV} {M : MI} {R : Room} {Q : LV × Mem → List Frame → Array Value → State → State → Prop} {cells slots pc : Nat} {μ : Mem} {lv : List (Option LV)} {st : List LV} {F : Option (LV × Mem)}
theorem runS_row {M' : MI} {R' : Room} {as : List LV} {index n : Nat} {F' : Option (LV × Mem)} {r' : LV × Mem} (hd : decode M.2.1 pc = .ok (.invokestatic index, 3)) (mo : MOk M' n) (ro : ROk M' R R') (hl : Cond.methodLink M.1.cls index M'.1 ∈ gtbl) (hi : Cond.static M'.1 ∈ gtbl)
    (hn : as.length = n) (h8 : st.length ≤ 8) (hrm : cells + R'.cells ≤ R.cells ∧ slots + R'.slots ≤ R.slots) (hC : Ct E M' R' as μ F') (hF : F' = some r')
    {p : Program} {e : Env} {s : State} {m : MethodId} {args : Array Value} {below : List Frame} {meth : Method} {c : Code} {ls : Array Slot} {H : Heap} {locs : List Loc} (fx : Fx M p s m args meth c) (ks : KS E s) (wh : WH E μ H) (hl2 : LVok E ls M.2.2.1 lv) :
    ∃ av, CallRun p E.1 e R s m args below meth c H locs cells slots R'.cells R'.slots (F0 m pc ls ((as.reverse ++ st).map (tv E))) (st.map (tv E)) (Qr E M' r' av) (AE E) := by
  have hts := fx.2.2.2.2.1
  refine ⟨_, W.runS (As := as.map (tv E)) ⟨fx.1, fx.2.1, fx.2.2.1, fx.2.2.2.1, hts⟩ (hC r' hF) ⟨callB_row hts mo ro hl, hts _ hi⟩ ⟨blind_of E μ _, fun U hU hW => ⟨rfl, by rw [hU]; exact wh, ks.warm hW⟩⟩ rfl (by rw [List.length_map]; exact hn) hl2.1 ?_ (st_room E m pc ls _ h8) hd hrm⟩
  show (as.reverse ++ st).map (tv E) = _
  rw [List.map_append, List.map_reverse]
theorem J_callSi {M' : MI} {R' : Room} {as : List LV} {index n : Nat} {F' : Option (LV × Mem)} {ty : FieldType} {G : Int32 → Mem → Option (LV × Mem)} {stk : List LV} (hd : decode M.2.1 pc = .ok (.invokestatic index, 3)) (mo : MOk M' n) (ro : ROk M' R R') (hl : Cond.methodLink M.1.cls index M'.1 ∈ gtbl) (hi : Cond.static M'.1 ∈ gtbl)
    (hn : as.length = n) (h8 : st.length ≤ 8) (hrm : cells + R'.cells ≤ R.cells ∧ slots + R'.slots ≤ R.slots) (hret : M'.2.2.2 = some ty) (hstk : as.reverse ++ st = stk) (hC : Ct E M' R' as μ F')
    (kk : ∀ v μ', J E M R Q (cells + R'.cells) (slots + R'.slots) μ' (pc + 3) lv (.inl v :: st) (G v μ')) : J E M R Q cells slots μ pc lv stk (bI F' G) := by
  intro r hr p e s m args below meth c ls H locs fx ks wh lo hl2
  subst hstk
  match F', hC, hr with
  | some (.inl v, μ'), hC, hr =>
    obtain ⟨av, hrun⟩ := runS_row (below := below) (meth := meth) (c := c) (e := e) (locs := locs) hd mo ro hl hi hn h8 hrm hC rfl fx ks wh hl2
    refine call_fin hrun lo (fun H1 locs1 wh1 lo1 => ?_)
    rw [rto_some hret]
    exact kk v μ' r hr p e s m args below meth c ls H1 locs1 fx ks wh1 lo1 hl2
  | some (.inr v, μ'), hC, hr => cases hr
  | none, hC, hr => cases hr
theorem J_callSr {M' : MI} {R' : Room} {as : List LV} {index n : Nat} {F' : Option (LV × Mem)} {ty : FieldType} {G : Nat → Mem → Option (LV × Mem)} {stk : List LV} (hd : decode M.2.1 pc = .ok (.invokestatic index, 3)) (mo : MOk M' n) (ro : ROk M' R R') (hl : Cond.methodLink M.1.cls index M'.1 ∈ gtbl) (hi : Cond.static M'.1 ∈ gtbl)
    (hn : as.length = n) (h8 : st.length ≤ 8) (hrm : cells + R'.cells ≤ R.cells ∧ slots + R'.slots ≤ R.slots) (hret : M'.2.2.2 = some ty) (hstk : as.reverse ++ st = stk) (hC : Ct E M' R' as μ F')
    (kk : ∀ v μ', J E M R Q (cells + R'.cells) (slots + R'.slots) μ' (pc + 3) lv (.inr v :: st) (G v μ')) : J E M R Q cells slots μ pc lv stk (bR F' G) := by
  intro r hr p e s m args below meth c ls H locs fx ks wh lo hl2
  subst hstk
  match F', hC, hr with
  | some (.inr v, μ'), hC, hr =>
    obtain ⟨av, hrun⟩ := runS_row (below := below) (meth := meth) (c := c) (e := e) (locs := locs) hd mo ro hl hi hn h8 hrm hC rfl fx ks wh hl2
    refine call_fin hrun lo (fun H1 locs1 wh1 lo1 => ?_)
    rw [rto_some hret]
    exact kk v μ' r hr p e s m args below meth c ls H1 locs1 fx ks wh1 lo1 hl2
  | some (.inl v, μ'), hC, hr => cases hr
  | none, hC, hr => cases hr
theorem J_callSv {M' : MI} {R' : Room} {as : List LV} {index n : Nat} {F' : Option (LV × Mem)} {G : Mem → Option (LV × Mem)} {stk : List LV} (hd : decode M.2.1 pc = .ok (.invokestatic index, 3)) (mo : MOk M' n) (ro : ROk M' R R') (hl : Cond.methodLink M.1.cls index M'.1 ∈ gtbl) (hi : Cond.static M'.1 ∈ gtbl)
    (hn : as.length = n) (h8 : st.length ≤ 8) (hrm : cells + R'.cells ≤ R.cells ∧ slots + R'.slots ≤ R.slots) (hret : M'.2.2.2 = none) (hstk : as.reverse ++ st = stk) (hC : Ct E M' R' as μ F')
    (kk : ∀ μ', J E M R Q (cells + R'.cells) (slots + R'.slots) μ' (pc + 3) lv st (G μ')) : J E M R Q cells slots μ pc lv stk (bV F' G) := by
  intro r hr p e s m args below meth c ls H locs fx ks wh lo hl2
  subst hstk
  match F', hC, hr with
  | some (v, μ'), hC, hr =>
    obtain ⟨av, hrun⟩ := runS_row (below := below) (meth := meth) (c := c) (e := e) (locs := locs) hd mo ro hl hi hn h8 hrm hC rfl fx ks wh hl2
    refine call_fin hrun lo (fun H1 locs1 wh1 lo1 => ?_)
    rw [rto_none hret]
    exact kk μ' r hr p e s m args below meth c ls H1 locs1 fx ks wh1 lo1 hl2
  | none, hC, hr => cases hr
theorem J_callI {M' : MI} {R' : Room} {as : List LV} {h index n : Nat} {F' : Option (LV × Mem)} {G : Mem → Option (LV × Mem)} {stk : List LV} (hd : decode M.2.1 pc = .ok (.invokespecial index, 3)) (mo : MOk M' n) (ro : ROk M' R R') (hl : Cond.methodLink M.1.cls index M'.1 ∈ gtbl) (hi : Cond.instanceMethod M'.1 ∈ gtbl) (hnm : M'.1.name = "<init>")
    (hn : as.length = n) (h8 : st.length ≤ 8) (hrm : cells + R'.cells ≤ R.cells ∧ slots + R'.slots ≤ R.slots) (hret : M'.2.2.2 = none) (hstk : as.reverse ++ .inr h :: st = stk) (hC : Ct E M' R' (.inr h :: as) μ F')
    (kk : ∀ μ', J E M R Q (cells + R'.cells) (slots + R'.slots) μ' (pc + 3) lv st (G μ')) : J E M R Q cells slots μ pc lv stk (cN h (bV F' G)) := by
  intro r hr p e s m args below meth c ls H locs fx ks wh lo hl2
  subst hstk
  unfold cN at hr
  split at hr
  · cases hr
  · rename_i hh
    obtain ⟨a, ha⟩ := ra_ne (E := E) hh
    match F', hC, hr with
    | some (v, μ'), hC, hr =>
      have hts := fx.2.2.2.2.1
      have ht : tv E (.inr h) = .ref a := by show va_rf (ra E h) = _; rw [ha]; rfl
      have hM := hC _ rfl
      rw [show (Sum.inr h :: as).map (tv E) = .ref a :: as.map (tv E) by rw [List.map_cons, ht]] at hM
      have hb := callB_row (M := M) (R := R) hts mo ro hl
      rw [hret] at hb
      have hrun : CallRun p E.1 e R s m args below meth c H locs cells slots R'.cells R'.slots (F0 m pc ls ((as.reverse ++ .inr h :: st).map (tv E))) (st.map (tv E)) (Qr E M' (v, μ') (Value.ref a :: as.map (tv E)).toArray) (AE E) := by
        refine W.runI (As := as.map (tv E)) (b := a) ⟨fx.1, fx.2.1, fx.2.2.1, fx.2.2.2.1, hts⟩ hM ⟨hb, hnm, hts _ hi⟩ ⟨blind_of E μ _, fun U hU hW => ⟨rfl, by rw [hU]; exact wh, ks.warm hW⟩⟩ rfl (by rw [List.length_map]; exact hn) hl2.1 ?_ (st_room E m pc ls _ h8) hd hrm
        show (as.reverse ++ .inr h :: st).map (tv E) = _
        rw [List.map_append, List.map_reverse, List.map_cons, ht]
      refine call_fin hrun lo (fun H1 locs1 wh1 lo1 => ?_)
      rw [rto_none hret]
      exact kk μ' r hr p e s m args below meth c ls H1 locs1 fx ks wh1 lo1 hl2
    | none, hC, hr => cases hr
theorem J_callIN {M' : MI} {R' : Room} {as : List LV} {h index n : Nat} {host : String} {F' : Option (LV × Mem)} {G : Mem → Option (LV × Mem)} {stk : List LV} (hd : decode M.2.1 pc = .ok (.invokespecial index, 3)) (mo : MOk M' n) (ro : ROk M' R R') (hl : Cond.methodLinkNest M.1.cls index M'.1 host ∈ ntbl) (hi : Cond.instanceMethod M'.1 ∈ gtbl) (hnm : M'.1.name = "<init>")
    (hn : as.length = n) (h8 : st.length ≤ 8) (hrm : cells + R'.cells ≤ R.cells ∧ slots + R'.slots ≤ R.slots) (hret : M'.2.2.2 = none) (hstk : as.reverse ++ .inr h :: st = stk) (hC : Ct E M' R' (.inr h :: as) μ F')
    (kk : ∀ μ', J E M R Q (cells + R'.cells) (slots + R'.slots) μ' (pc + 3) lv st (G μ')) : J E M R Q cells slots μ pc lv stk (cN h (bV F' G)) := by
  intro r hr p e s m args below meth c ls H locs fx ks wh lo hl2
  subst hstk
  unfold cN at hr
  split at hr
  · cases hr
  · rename_i hh
    obtain ⟨a, ha⟩ := ra_ne (E := E) hh
    match F', hC, hr with
    | some (v, μ'), hC, hr =>
      have hts := fx.2.2.2.2.1
      have ht : tv E (.inr h) = .ref a := by show va_rf (ra E h) = _; rw [ha]; rfl
      have hM := hC _ rfl
      rw [show (Sum.inr h :: as).map (tv E) = .ref a :: as.map (tv E) by rw [List.map_cons, ht]] at hM
      have hb : va_CN R s args M.1.cls index M'.1 host M'.2.1 M'.2.2.1 M'.2.2.2 (wsy M') R' R'.cells R'.slots n := va_cnB n hts (good_wsy mo) rfl rfl rfl (ks.2.2.2.2.2.2.1 _ hl) (hts _ mo.2.1) mo.2.2 ro
      rw [hret] at hb
      have hrun : va_Run p E.1 e R s m args below meth c H locs cells slots R'.cells R'.slots (F0 m pc ls ((as.reverse ++ .inr h :: st).map (tv E))) (st.map (tv E)) (Qr E M' (v, μ') (Value.ref a :: as.map (tv E)).toArray) (AE E) := by
        refine va_runIN (As := as.map (tv E)) (b := a) ⟨fx.1, fx.2.1, fx.2.2.1, fx.2.2.2.1, hts⟩ hM ⟨hb, hnm, hts _ hi⟩ ⟨blind_of E μ _, fun U hU hW => ⟨rfl, by rw [hU]; exact wh, ks.warm hW⟩⟩ rfl (by rw [List.length_map]; exact hn) hl2.1 ?_ (st_room E m pc ls _ h8) hd hrm
        show (as.reverse ++ .inr h :: st).map (tv E) = _
        rw [List.map_append, List.map_reverse, List.map_cons, ht]
      have hrun2 : CallRun p E.1 e R s m args below meth c H locs cells slots R'.cells R'.slots (F0 m pc ls ((as.reverse ++ .inr h :: st).map (tv E))) (st.map (tv E)) (Qr E M' (v, μ') (Value.ref a :: as.map (tv E)).toArray) (AE E) := by
        intro T hT X
        obtain ⟨v1, st₀, t, T', L, h0, X', hL, e1, e2, hq, stp⟩ := hrun T hT X
        exact ⟨v1, st₀, t, T', L, h0, X', hL, e1, hq, stp⟩
      refine call_fin hrun2 lo (fun H1 locs1 wh1 lo1 => ?_)
      rw [rto_none hret]
      exact kk μ' r hr p e s m args below meth c ls H1 locs1 fx ks wh1 lo1 hl2
    | none, hC, hr => cases hr
/-- Object's constructor -/
theorem J_obj {h index : Nat} (hd : decode M.2.1 pc = .ok (.invokespecial index, 3)) (hl : Cond.methodLink M.1.cls index objectInit ∈ gtbl) (hi : Cond.instanceMethod objectInit ∈ gtbl) (hc : Cond.code objectInit ⟨#[0xb1]⟩ 1 none ∈ gtbl) (h8 : st.length ≤ 8) (hf : 1 ≤ R.frames) (hlo : 20 ≤ R.locals)
    (kk : J E M R Q cells slots μ (pc + 3) lv st F) : J E M R Q cells slots μ pc lv (.inr h :: st) (cN h F) := by
  intro r hr p e s m args below meth c ls H locs fx ks wh lo hl2
  unfold cN at hr
  split at hr
  · cases hr
  · rename_i hh
    obtain ⟨a, ha⟩ := ra_ne (E := E) hh
    have hts := fx.2.2.2.2.1
    have ht : tv E (.inr h) = .ref a := by show va_rf (ra E h) = _; rw [ha]; rfl
    have h9 := st_room E m pc ls (.ref a :: st.map (tv E)) h8
    rw [List.map_cons, ht]
    exact W.objInit fx.1 fx.2.1 fx.2.2.2.1 (hts _ hl) (hts _ hi) (hts _ hc) rfl (by rw [fx.2.2.1]; exact hl2.1) rfl hd hf (by omega) (kk r hr p e s m args below meth c ls H locs fx ks wh lo hl2)
theorem J_cast {ci h index N : Nat} {C : String} {T : u_T} (hd : decode M.2.1 pc = .ok (.checkcast index, 3)) (hci : ci < 900) (hc : classes[ci]? = some (C, T, N)) (hl : Cond.classLink M.1.cls index C ∈ gtbl)
    (kk : J E M R Q cells slots μ (pc + 3) lv (.inr h :: st) F) : J E M R Q cells slots μ pc lv (.inr h :: st) (cC ci h μ F) := by
  intro r hr p e s m args below meth c ls H locs fx ks wh lo hl2
  unfold cC at hr
  split at hr
  · rename_i hs
    have k1 := kk r hr p e s m args below meth c ls H locs fx ks wh lo hl2
    by_cases h0 : h = 0
    · subst h0
      exact lv_castN fx.1 fx.2.1 hd k1
    · have hs2 : shp μ h = (ci + 3, 0) := hs.resolve_left h0
      obtain ⟨a, rfl, ha, hw⟩ := cell_at (E := E) hs2 (by simp <;> omega) (by simp <;> omega)
      exact va_castS fx.1 fx.2.1 fx.2.2.2.1 (fx.2.2.2.2.1 _ hl) (ks.1.1 ci _ hc).2 (va_recv (q := (C, T, N)) ks.1 wh.1 hc (q0 := a) (ci := ci) hw) hd k1
  · cases hr
/-- a contract out of the walk of the body -/
theorem Ct.of {as : List LV} {k : Nat} (hy : plainFor M.1 = true) (hk : M.2.2.1 = as.length + k) (h : J E M R (QR E M R) 0 0 μ 0 (as.map some ++ List.replicate k none) [] F) : Ct E M R as μ F := by
  intro r hF
  refine va_MetF (cc := M.2.1) (maxL := M.2.2.1) (ret := M.2.2.2) hy rfl ?_
  intro p e s m args below meth c s₁ B hml hv
  obtain ⟨rfl, hwh, hks⟩ := hv
  have hts : ∀ w ∈ gtbl, w.before (as.map (tv E)).toArray s = true := fun w hw => atoms_spec (ws := wsy M) B.pre w (List.mem_cons_of_mem _ hw)
  have fx : Fx M p s m (as.map (tv E)).toArray meth c := ⟨B.exec, B.bytes, hml, findClass_of_methodNamed B.named, hts, B.returns, B.notSynchronized, (name_of_methodNamed B.named B.method).1⟩
  rw [lg_entry_eq]
  exact h r hF p e s m _ below meth c _ s.heap [] fx hks hwh (fun q hq => by cases hq) (lv_entry_ok E as M.2.2.1 k hk)
end C2
