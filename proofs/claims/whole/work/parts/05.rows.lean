section JR
variable {E : EV} {M : MI} {R : Room} {Q : LV × Mem → List Frame → Array Value → State → State → Prop} {cells slots pc : Nat} {μ : Mem} {lv : List (Option LV)} {st : List LV} {F : Option (LV × Mem)}
theorem J_none : J E M R Q cells slots μ pc lv st none := fun r h => by cases h
theorem J_iconst {n : Int} {v : Int32} (hd : decode M.2.1 pc = .ok (.iconst n, 1)) (hv : Int32.ofInt n = v) (k : J E M R Q cells slots μ (pc + 1) lv (.inl v :: st) F) : J E M R Q cells slots μ pc lv st F := by
  intro r hr p e s m args below meth c ls H locs fx ks wh lo hl
  exact lv_iconst fx.1 fx.2.1 hd hv (k r hr p e s m args below meth c ls H locs fx ks wh lo hl)
theorem J_bipush {n : Int} {v : Int32} (hd : decode M.2.1 pc = .ok (.bipush n, 2)) (hv : (Int8.ofInt n).toInt32 = v) (k : J E M R Q cells slots μ (pc + 2) lv (.inl v :: st) F) : J E M R Q cells slots μ pc lv st F := by
  intro r hr p e s m args below meth c ls H locs fx ks wh lo hl
  exact lv_bipush fx.1 fx.2.1 hd hv (k r hr p e s m args below meth c ls H locs fx ks wh lo hl)
theorem J_sipush {n : Int} {v : Int32} (hd : decode M.2.1 pc = .ok (.sipush n, 3)) (hv : (Int16.ofInt n).toInt32 = v) (k : J E M R Q cells slots μ (pc + 3) lv (.inl v :: st) F) : J E M R Q cells slots μ pc lv st F := by
  intro r hr p e s m args below meth c ls H locs fx ks wh lo hl
  exact lv_sipush fx.1 fx.2.1 hd hv (k r hr p e s m args below meth c ls H locs fx ks wh lo hl)
theorem J_iadd {a b : Int32} (hd : decode M.2.1 pc = .ok (.iadd, 1))  (k : J E M R Q cells slots μ (pc + 1) lv (.inl (a + b) :: st) F) : J E M R Q cells slots μ pc lv (.inl b :: .inl a :: st) F := by
  intro r hr p e s m args below meth c ls H locs fx ks wh lo hl
  exact lv_iadd fx.1 fx.2.1 hd  (k r hr p e s m args below meth c ls H locs fx ks wh lo hl)
theorem J_isub {a b : Int32} (hd : decode M.2.1 pc = .ok (.isub, 1))  (k : J E M R Q cells slots μ (pc + 1) lv (.inl (a - b) :: st) F) : J E M R Q cells slots μ pc lv (.inl b :: .inl a :: st) F := by
  intro r hr p e s m args below meth c ls H locs fx ks wh lo hl
  exact lv_isub fx.1 fx.2.1 hd  (k r hr p e s m args below meth c ls H locs fx ks wh lo hl)
theorem J_imul {a b : Int32} (hd : decode M.2.1 pc = .ok (.imul, 1))  (k : J E M R Q cells slots μ (pc + 1) lv (.inl (a * b) :: st) F) : J E M R Q cells slots μ pc lv (.inl b :: .inl a :: st) F := by
  intro r hr p e s m args below meth c ls H locs fx ks wh lo hl
  exact lv_imul fx.1 fx.2.1 hd  (k r hr p e s m args below meth c ls H locs fx ks wh lo hl)
theorem J_iand {a b : Int32} (hd : decode M.2.1 pc = .ok (.iand, 1))  (k : J E M R Q cells slots μ (pc + 1) lv (.inl (a &&& b) :: st) F) : J E M R Q cells slots μ pc lv (.inl b :: .inl a :: st) F := by
  intro r hr p e s m args below meth c ls H locs fx ks wh lo hl
  exact lv_iand fx.1 fx.2.1 hd  (k r hr p e s m args below meth c ls H locs fx ks wh lo hl)
theorem J_ixor {a b : Int32} (hd : decode M.2.1 pc = .ok (.ixor, 1))  (k : J E M R Q cells slots μ (pc + 1) lv (.inl (a ^^^ b) :: st) F) : J E M R Q cells slots μ pc lv (.inl b :: .inl a :: st) F := by
  intro r hr p e s m args below meth c ls H locs fx ks wh lo hl
  exact lv_ixor fx.1 fx.2.1 hd  (k r hr p e s m args below meth c ls H locs fx ks wh lo hl)
theorem J_ishr {a b : Int32} (hd : decode M.2.1 pc = .ok (.ishr, 1))  (k : J E M R Q cells slots μ (pc + 1) lv (.inl (a >>> (b &&& 31)) :: st) F) : J E M R Q cells slots μ pc lv (.inl b :: .inl a :: st) F := by
  intro r hr p e s m args below meth c ls H locs fx ks wh lo hl
  exact lv_ishr fx.1 fx.2.1 hd  (k r hr p e s m args below meth c ls H locs fx ks wh lo hl)
theorem J_ineg {a : Int32} (hd : decode M.2.1 pc = .ok (.ineg, 1))  (k : J E M R Q cells slots μ (pc + 1) lv (.inl (-a) :: st) F) : J E M R Q cells slots μ pc lv (.inl a :: st) F := by
  intro r hr p e s m args below meth c ls H locs fx ks wh lo hl
  exact lv_ineg fx.1 fx.2.1 hd  (k r hr p e s m args below meth c ls H locs fx ks wh lo hl)
def idv (a b : Int32) (K : Int32 → Option (LV × Mem)) : Option (LV × Mem) := if b = 0 then none else K (a / b)
def irm (a b : Int32) : Int32 := a - a / b * b
def irv (a b : Int32) (K : Int32 → Option (LV × Mem)) : Option (LV × Mem) := if b = 0 then none else K (irm a b)
theorem J_idivL {a b : Int32} (hd : decode M.2.1 pc = .ok (.idiv, 1)) (hb : ¬ b = 0) (k : J E M R Q cells slots μ (pc + 1) lv (.inl (a / b) :: st) F) : J E M R Q cells slots μ pc lv (.inl b :: .inl a :: st) F := by
  intro r hr p e s m args below meth c ls H locs fx ks wh lo hl
  exact lv_idiv fx.1 fx.2.1 hd hb (k r hr p e s m args below meth c ls H locs fx ks wh lo hl)
theorem J_iremL {a b : Int32} (hd : decode M.2.1 pc = .ok (.irem, 1)) (hb : ¬ b = 0) (k : J E M R Q cells slots μ (pc + 1) lv (.inl (irm a b) :: st) F) : J E M R Q cells slots μ pc lv (.inl b :: .inl a :: st) F := by
  intro r hr p e s m args below meth c ls H locs fx ks wh lo hl
  exact lv_irem fx.1 fx.2.1 hd hb (k r hr p e s m args below meth c ls H locs fx ks wh lo hl)
theorem J_idiv {a b : Int32} {K : Int32 → Option (LV × Mem)} (hd : decode M.2.1 pc = .ok (.idiv, 1)) (k : ∀ v, J E M R Q cells slots μ (pc + 1) lv (.inl v :: st) (K v)) : J E M R Q cells slots μ pc lv (.inl b :: .inl a :: st) (idv a b K) := by
  by_cases hb : b = 0
  · intro r hr; simp [idv, hb] at hr
  · rw [show idv a b K = K (a / b) from if_neg hb]; exact J_idivL hd hb (k _)
theorem J_irem {a b : Int32} {K : Int32 → Option (LV × Mem)} (hd : decode M.2.1 pc = .ok (.irem, 1)) (k : ∀ v, J E M R Q cells slots μ (pc + 1) lv (.inl v :: st) (K v)) : J E M R Q cells slots μ pc lv (.inl b :: .inl a :: st) (irv a b K) := by
  by_cases hb : b = 0
  · intro r hr; simp [irv, hb] at hr
  · rw [show irv a b K = K (irm a b) from if_neg hb]; exact J_iremL hd hb (k _)
def nm (x : Int32) (K : Int32 → Option (LV × Mem)) : Option (LV × Mem) := K x
theorem J_nm {x : Int32} {K : Int32 → Option (LV × Mem)} (k : ∀ v, J E M R Q cells slots μ pc lv (.inl v :: st) (K v)) : J E M R Q cells slots μ pc lv (.inl x :: st) (nm x K) := k x
theorem J_wid {k n : Nat} (h1 : cells ≤ k) (h2 : slots ≤ n) (kk : J E M R Q k n μ pc lv st F) : J E M R Q cells slots μ pc lv st F := by
  intro r hr p e s m args below meth c ls H locs fx ks wh lo hl
  exact W.widen h1 h2 (kk r hr p e s m args below meth c ls H locs fx ks wh lo hl)
theorem J_dup {x : LV} (hd : decode M.2.1 pc = .ok (.dup, 1))  (k : J E M R Q cells slots μ (pc + 1) lv (x :: x :: st) F) : J E M R Q cells slots μ pc lv (x :: st) F := by
  intro r hr p e s m args below meth c ls H locs fx ks wh lo hl
  exact lv_dup fx.1 fx.2.1 hd (tv_cat E x) (k r hr p e s m args below meth c ls H locs fx ks wh lo hl)
theorem J_pop {x : LV} (hd : decode M.2.1 pc = .ok (.pop, 1))  (k : J E M R Q cells slots μ (pc + 1) lv st F) : J E M R Q cells slots μ pc lv (x :: st) F := by
  intro r hr p e s m args below meth c ls H locs fx ks wh lo hl
  exact lv_pop fx.1 fx.2.1 hd (tv_cat E x) (k r hr p e s m args below meth c ls H locs fx ks wh lo hl)
theorem J_dup_x1 {x y : LV} (hd : decode M.2.1 pc = .ok (.dup_x1, 1))  (k : J E M R Q cells slots μ (pc + 1) lv (x :: y :: x :: st) F) : J E M R Q cells slots μ pc lv (x :: y :: st) F := by
  intro r hr p e s m args below meth c ls H locs fx ks wh lo hl
  exact lv_dup_x1 fx.1 fx.2.1 hd (tv_cat E x) (tv_cat E y) (k r hr p e s m args below meth c ls H locs fx ks wh lo hl)
theorem J_dup2 {x y : LV} (hd : decode M.2.1 pc = .ok (.dup2, 1))  (k : J E M R Q cells slots μ (pc + 1) lv (x :: y :: x :: y :: st) F) : J E M R Q cells slots μ pc lv (x :: y :: st) F := by
  intro r hr p e s m args below meth c ls H locs fx ks wh lo hl
  exact lv_dup2_11 fx.1 fx.2.1 hd (tv_cat E x) (tv_cat E y) (k r hr p e s m args below meth c ls H locs fx ks wh lo hl)
theorem J_null  (hd : decode M.2.1 pc = .ok (.aconst_null, 1))  (k : J E M R Q cells slots μ (pc + 1) lv (.inr 0 :: st) F) : J E M R Q cells slots μ pc lv st F := by
  intro r hr p e s m args below meth c ls H locs fx ks wh lo hl
  exact lv_null fx.1 fx.2.1 hd  (k r hr p e s m args below meth c ls H locs fx ks wh lo hl)
theorem J_iload_n {kf : Fin 4} {x : Int32} (hd : decode M.2.1 pc = .ok (.iload_n kf, 1)) (hv : lv[kf.val]? = some (some (.inl x))) (k : J E M R Q cells slots μ (pc + 1) lv (.inl x :: st) F) : J E M R Q cells slots μ pc lv st F := by
  intro r hr p e s m args below meth c ls H locs fx ks wh lo hl
  exact lv_iload_n fx.1 fx.2.1 hd rfl (hl.2.2 _ _ hv) (k r hr p e s m args below meth c ls H locs fx ks wh lo hl)
theorem J_iload {i : Nat} {x : Int32} (hd : decode M.2.1 pc = .ok (.iload i, 2)) (hv : lv[i]? = some (some (.inl x))) (k : J E M R Q cells slots μ (pc + 2) lv (.inl x :: st) F) : J E M R Q cells slots μ pc lv st F := by
  intro r hr p e s m args below meth c ls H locs fx ks wh lo hl
  exact lv_iload fx.1 fx.2.1 hd (hl.2.2 _ _ hv) (k r hr p e s m args below meth c ls H locs fx ks wh lo hl)
theorem J_aload_n {kf : Fin 4} {h : Nat} (hd : decode M.2.1 pc = .ok (.aload_n kf, 1)) (hv : lv[kf.val]? = some (some (.inr h))) (k : J E M R Q cells slots μ (pc + 1) lv (.inr h :: st) F) : J E M R Q cells slots μ pc lv st F := by
  intro r hr p e s m args below meth c ls H locs fx ks wh lo hl
  have k1 := k r hr p e s m args below meth c ls H locs fx ks wh lo hl
  have h1 := hl.2.2 _ _ hv
  simp only [List.map_cons, tv] at k1 h1
  cases hq : ra E h with
  | none => rw [hq] at k1 h1; exact lv_aload_nN fx.1 fx.2.1 hd rfl h1 k1
  | some a => rw [hq] at k1 h1; exact lv_aload_n fx.1 fx.2.1 hd rfl h1 k1
theorem J_aload {i : Nat} {h : Nat} (hd : decode M.2.1 pc = .ok (.aload i, 2)) (hv : lv[i]? = some (some (.inr h))) (k : J E M R Q cells slots μ (pc + 2) lv (.inr h :: st) F) : J E M R Q cells slots μ pc lv st F := by
  intro r hr p e s m args below meth c ls H locs fx ks wh lo hl
  have k1 := k r hr p e s m args below meth c ls H locs fx ks wh lo hl
  have h1 := hl.2.2 _ _ hv
  simp only [List.map_cons, tv] at k1 h1
  cases hq : ra E h with
  | none => rw [hq] at k1 h1; exact lv_aloadN fx.1 fx.2.1 hd h1 k1
  | some a => rw [hq] at k1 h1; exact lv_aload fx.1 fx.2.1 hd h1 k1
def la (E : EV) (lv : List (Option LV)) : List (Nat × Value) := (List.range lv.length).filterMap (fun i => match lv[i]? with
  | some (some x) => some (i, tv E x)
  | _ => none)
theorem la_mem {E : EV} {lv : List (Option LV)} {i : Nat} {x : LV} (h : lv[i]? = some (some x)) : (i, tv E x) ∈ la E lv := by
  have hi : i < lv.length := (List.getElem?_eq_some_iff.mp h).1
  exact List.mem_filterMap.mpr ⟨i, List.mem_range.mpr hi, by rw [h]⟩
theorem la_has {E : EV} {ls : Array Slot} {nL : Nat} {lv : List (Option LV)} (h : LVok E ls nL lv) : lv_has ls nL (la E lv) := by
  refine ⟨h.1, h.2.1, fun q hq => ?_⟩
  obtain ⟨i, -, hi⟩ := List.mem_filterMap.mp hq
  split at hi
  · cases hi
    exact h.2.2 i _ (by assumption)
  · cases hi
theorem la_set {E : EV} {ls : Array Slot} {nL i : Nat} {lv : List (Option LV)} {x : LV} (h : lv_has ls nL ((i, tv E x) :: (la E lv).filter (fun q => !(q.1 == i) && !(q.1 + 1 == i && q.2.category == 2)))) : LVok E ls nL (lv.set i (some x)) := by
  refine ⟨h.1, h.2.1, fun j y hy => ?_⟩
  by_cases hj : j = i
  · subst hj
    have hlt : j < lv.length := by
      have := (List.getElem?_eq_some_iff.mp hy).1
      simpa using this
    rw [List.getElem?_set_self hlt] at hy
    have e := Option.some.inj (Option.some.inj hy)
    rw [← e]
    exact h.2.2 (j, tv E x) List.mem_cons_self
  · rw [List.getElem?_set_ne (fun q => hj q.symm)] at hy
    exact h.2.2 (j, tv E y) (List.mem_cons_of_mem _ (List.mem_filter.mpr ⟨la_mem hy, by simp [hj, tv_cat]⟩))
theorem LVok.sub {E : EV} {ls : Array Slot} {nL : Nat} {lv lv' : List (Option LV)} (h : LVok E ls nL lv) (hs : ∀ (i : Nat) (x : LV), lv'[i]? = some (some x) → lv[i]? = some (some x)) : LVok E ls nL lv' := ⟨h.1, h.2.1, fun i x hx => h.2.2 i x (hs i x hx)⟩
theorem J_istore_n {kf : Fin 4} {x : Int32} {lv' : List (Option LV)} (hd : decode M.2.1 pc = .ok (.istore_n kf, 1)) (hn : kf.val < M.2.2.1) (hs : lv.set kf.val (some (.inl x)) = lv') (k : J E M R Q cells slots μ (pc + 1) lv' st F) : J E M R Q cells slots μ pc lv (.inl x :: st) F := by
  intro r hr p e s m args below meth c ls H locs fx ks wh lo hl
  subst hs
  exact lv_istore_n fx.1 fx.2.1 hd rfl (la_has hl) hn rfl (fun ls' h' => k r hr p e s m args below meth c ls' H locs fx ks wh lo (la_set (x := .inl x) h'))
theorem J_istore {i : Nat} {x : Int32} {lv' : List (Option LV)} (hd : decode M.2.1 pc = .ok (.istore i, 2)) (hn : i < M.2.2.1) (hs : lv.set i (some (.inl x)) = lv') (k : J E M R Q cells slots μ (pc + 2) lv' st F) : J E M R Q cells slots μ pc lv (.inl x :: st) F := by
  intro r hr p e s m args below meth c ls H locs fx ks wh lo hl
  subst hs
  exact lv_istore fx.1 fx.2.1 hd (la_has hl) hn rfl (fun ls' h' => k r hr p e s m args below meth c ls' H locs fx ks wh lo (la_set (x := .inl x) h'))
theorem J_astore_n {kf : Fin 4} {h : Nat} {lv' : List (Option LV)} (hd : decode M.2.1 pc = .ok (.astore_n kf, 1)) (hn : kf.val < M.2.2.1) (hs : lv.set kf.val (some (.inr h)) = lv') (k : J E M R Q cells slots μ (pc + 1) lv' st F) : J E M R Q cells slots μ pc lv (.inr h :: st) F := by
  intro r hr p e s m args below meth c ls H locs fx ks wh lo hl
  subst hs
  have kk : ∀ ls' : Array Slot, lv_has ls' M.2.2.1 ((kf.val, va_rf (ra E h)) :: (la E lv).filter (fun q => !(q.1 == kf.val) && !(q.1 + 1 == kf.val && q.2.category == 2))) → W p E.1 e R s m args below meth c H locs cells slots (Q r below args s) (F0 m (pc + 1) ls' (st.map (tv E))) := fun ls' h' => k r hr p e s m args below meth c ls' H locs fx ks wh lo (la_set (x := .inr h) h')
  show W p E.1 e R s m args below meth c H locs cells slots (Q r below args s) (F0 m pc ls (va_rf (ra E h) :: st.map (tv E)))
  cases hq : ra E h with
  | none => rw [hq] at kk; exact lv_astore_nN fx.1 fx.2.1 hd rfl (la_has hl) hn rfl kk
  | some a => rw [hq] at kk; exact lv_astore_n fx.1 fx.2.1 hd rfl (la_has hl) hn rfl kk
theorem J_astore {i : Nat} {h : Nat} {lv' : List (Option LV)} (hd : decode M.2.1 pc = .ok (.astore i, 2)) (hn : i < M.2.2.1) (hs : lv.set i (some (.inr h)) = lv') (k : J E M R Q cells slots μ (pc + 2) lv' st F) : J E M R Q cells slots μ pc lv (.inr h :: st) F := by
  intro r hr p e s m args below meth c ls H locs fx ks wh lo hl
  subst hs
  have kk : ∀ ls' : Array Slot, lv_has ls' M.2.2.1 ((i, va_rf (ra E h)) :: (la E lv).filter (fun q => !(q.1 == i) && !(q.1 + 1 == i && q.2.category == 2))) → W p E.1 e R s m args below meth c H locs cells slots (Q r below args s) (F0 m (pc + 2) ls' (st.map (tv E))) := fun ls' h' => k r hr p e s m args below meth c ls' H locs fx ks wh lo (la_set (x := .inr h) h')
  show W p E.1 e R s m args below meth c H locs cells slots (Q r below args s) (F0 m pc ls (va_rf (ra E h) :: st.map (tv E)))
  cases hq : ra E h with
  | none => rw [hq] at kk; exact lv_astoreN fx.1 fx.2.1 hd (la_has hl) hn rfl kk
  | some a => rw [hq] at kk; exact lv_astore fx.1 fx.2.1 hd (la_has hl) hn rfl kk
theorem J_iinc {i : Nat} {n : Int} {x v : Int32} {lv' : List (Option LV)} (hd : decode M.2.1 pc = .ok (.iinc i n, 3)) (hn : i < M.2.2.1) (hx : lv[i]? = some (some (.inl x))) (hv : x + Int32.ofInt n = v) (hs : lv.set i (some (.inl v)) = lv') (k : J E M R Q cells slots μ (pc + 3) lv' st F) : J E M R Q cells slots μ pc lv st F := by
  intro r hr p e s m args below meth c ls H locs fx ks wh lo hl
  subst hs
  obtain ⟨q, hq⟩ := List.getElem?_of_mem (la_mem (E := E) hx)
  exact lv_iinc fx.1 fx.2.1 hd (la_has hl) hq hv hn rfl (fun ls' h' => k r hr p e s m args below meth c ls' H locs fx ks wh lo (la_set (x := .inl v) h'))
theorem J_sub {lv' : List (Option LV)} (hs : ∀ (i : Nat) (x : LV), lv'[i]? = some (some x) → lv[i]? = some (some x)) (k : J E M R Q cells slots μ pc lv' st F) : J E M R Q cells slots μ pc lv st F := by
  intro r hr p e s m args below meth c ls H locs fx ks wh lo hl
  exact k r hr p e s m args below meth c ls H locs fx ks wh lo (hl.sub hs)
def keepL : List Bool → List (Option LV) → List (Option LV)
  | true :: bs, x :: xs => x :: keepL bs xs
  | false :: bs, _ :: xs => none :: keepL bs xs
  | _, _ => []
theorem keepL_sub : ∀ (bs : List Bool) (xs : List (Option LV)) (i : Nat) (x : LV), (keepL bs xs)[i]? = some (some x) → xs[i]? = some (some x)
  | true :: bs, y :: xs, 0, x, h => by simpa [keepL] using h
  | true :: bs, y :: xs, i + 1, x, h => by simpa using keepL_sub bs xs i x (by simpa [keepL] using h)
  | false :: bs, y :: xs, 0, x, h => by simp [keepL] at h
  | false :: bs, y :: xs, i + 1, x, h => by simpa using keepL_sub bs xs i x (by simpa [keepL] using h)
  | [], xs, i, x, h => by simp [keepL] at h
  | true :: bs, [], i, x, h => by simp [keepL] at h
  | false :: bs, [], i, x, h => by simp [keepL] at h
theorem J_keep (bs : List Bool) {lv' : List (Option LV)} (hs : keepL bs lv = lv') (k : J E M R Q cells slots μ pc lv' st F) : J E M R Q cells slots μ pc lv st F := by
  subst hs
  exact J_sub (keepL_sub bs lv) k
theorem J_if_eq {x : Int32} {off : Int} {tgt : Nat} {F1 F2 : Option (LV × Mem)} (hd : decode M.2.1 pc = .ok (.ifCond .eq off, 3)) (ht : (pc : Int) + off = (tgt : Int)) (k1 : J E M R Q cells slots μ tgt lv st F1) (k2 : J E M R Q cells slots μ (pc + 3) lv st F2) : J E M R Q cells slots μ pc lv (.inl x :: st) (if x = 0 then F1 else F2) := by
  intro r hr p e s m args below meth c ls H locs fx ks wh lo hl
  exact lv_if_eq fx.1 fx.2.1 hd ht (fun hc => k1 r (by rw [if_pos hc] at hr; exact hr) p e s m args below meth c ls H locs fx ks wh lo hl) (fun hc => k2 r (by rw [if_neg hc] at hr; exact hr) p e s m args below meth c ls H locs fx ks wh lo hl)
theorem J_icmp_eq {x y : Int32} {off : Int} {tgt : Nat} {F1 F2 : Option (LV × Mem)} (hd : decode M.2.1 pc = .ok (.if_icmp .eq off, 3)) (ht : (pc : Int) + off = (tgt : Int)) (k1 : J E M R Q cells slots μ tgt lv st F1) (k2 : J E M R Q cells slots μ (pc + 3) lv st F2) : J E M R Q cells slots μ pc lv (.inl y :: .inl x :: st) (if x = y then F1 else F2) := by
  intro r hr p e s m args below meth c ls H locs fx ks wh lo hl
  exact lv_icmp_eq fx.1 fx.2.1 hd ht (fun hc => k1 r (by rw [if_pos hc] at hr; exact hr) p e s m args below meth c ls H locs fx ks wh lo hl) (fun hc => k2 r (by rw [if_neg hc] at hr; exact hr) p e s m args below meth c ls H locs fx ks wh lo hl)
theorem J_if_ne {x : Int32} {off : Int} {tgt : Nat} {F1 F2 : Option (LV × Mem)} (hd : decode M.2.1 pc = .ok (.ifCond .ne off, 3)) (ht : (pc : Int) + off = (tgt : Int)) (k1 : J E M R Q cells slots μ tgt lv st F1) (k2 : J E M R Q cells slots μ (pc + 3) lv st F2) : J E M R Q cells slots μ pc lv (.inl x :: st) (if x = 0 then F2 else F1) := by
  intro r hr p e s m args below meth c ls H locs fx ks wh lo hl
  exact lv_if_ne fx.1 fx.2.1 hd ht (fun hc => k1 r (by rw [if_neg hc] at hr; exact hr) p e s m args below meth c ls H locs fx ks wh lo hl) (fun hc => k2 r (by rw [if_pos hc] at hr; exact hr) p e s m args below meth c ls H locs fx ks wh lo hl)
theorem J_icmp_ne {x y : Int32} {off : Int} {tgt : Nat} {F1 F2 : Option (LV × Mem)} (hd : decode M.2.1 pc = .ok (.if_icmp .ne off, 3)) (ht : (pc : Int) + off = (tgt : Int)) (k1 : J E M R Q cells slots μ tgt lv st F1) (k2 : J E M R Q cells slots μ (pc + 3) lv st F2) : J E M R Q cells slots μ pc lv (.inl y :: .inl x :: st) (if x = y then F2 else F1) := by
  intro r hr p e s m args below meth c ls H locs fx ks wh lo hl
  exact lv_icmp_ne fx.1 fx.2.1 hd ht (fun hc => k1 r (by rw [if_neg hc] at hr; exact hr) p e s m args below meth c ls H locs fx ks wh lo hl) (fun hc => k2 r (by rw [if_pos hc] at hr; exact hr) p e s m args below meth c ls H locs fx ks wh lo hl)
theorem J_if_lt {x : Int32} {off : Int} {tgt : Nat} {F1 F2 : Option (LV × Mem)} (hd : decode M.2.1 pc = .ok (.ifCond .lt off, 3)) (ht : (pc : Int) + off = (tgt : Int)) (k1 : J E M R Q cells slots μ tgt lv st F1) (k2 : J E M R Q cells slots μ (pc + 3) lv st F2) : J E M R Q cells slots μ pc lv (.inl x :: st) (if x < 0 then F1 else F2) := by
  intro r hr p e s m args below meth c ls H locs fx ks wh lo hl
  exact lv_if_lt fx.1 fx.2.1 hd ht (fun hc => k1 r (by rw [if_pos hc] at hr; exact hr) p e s m args below meth c ls H locs fx ks wh lo hl) (fun hc => k2 r (by rw [if_neg hc] at hr; exact hr) p e s m args below meth c ls H locs fx ks wh lo hl)
theorem J_icmp_lt {x y : Int32} {off : Int} {tgt : Nat} {F1 F2 : Option (LV × Mem)} (hd : decode M.2.1 pc = .ok (.if_icmp .lt off, 3)) (ht : (pc : Int) + off = (tgt : Int)) (k1 : J E M R Q cells slots μ tgt lv st F1) (k2 : J E M R Q cells slots μ (pc + 3) lv st F2) : J E M R Q cells slots μ pc lv (.inl y :: .inl x :: st) (if x < y then F1 else F2) := by
  intro r hr p e s m args below meth c ls H locs fx ks wh lo hl
  exact lv_icmp_lt fx.1 fx.2.1 hd ht (fun hc => k1 r (by rw [if_pos hc] at hr; exact hr) p e s m args below meth c ls H locs fx ks wh lo hl) (fun hc => k2 r (by rw [if_neg hc] at hr; exact hr) p e s m args below meth c ls H locs fx ks wh lo hl)
theorem J_if_ge {x : Int32} {off : Int} {tgt : Nat} {F1 F2 : Option (LV × Mem)} (hd : decode M.2.1 pc = .ok (.ifCond .ge off, 3)) (ht : (pc : Int) + off = (tgt : Int)) (k1 : J E M R Q cells slots μ tgt lv st F1) (k2 : J E M R Q cells slots μ (pc + 3) lv st F2) : J E M R Q cells slots μ pc lv (.inl x :: st) (if 0 ≤ x then F1 else F2) := by
  intro r hr p e s m args below meth c ls H locs fx ks wh lo hl
  exact lv_if_ge fx.1 fx.2.1 hd ht (fun hc => k1 r (by rw [if_pos hc] at hr; exact hr) p e s m args below meth c ls H locs fx ks wh lo hl) (fun hc => k2 r (by rw [if_neg hc] at hr; exact hr) p e s m args below meth c ls H locs fx ks wh lo hl)
theorem J_icmp_ge {x y : Int32} {off : Int} {tgt : Nat} {F1 F2 : Option (LV × Mem)} (hd : decode M.2.1 pc = .ok (.if_icmp .ge off, 3)) (ht : (pc : Int) + off = (tgt : Int)) (k1 : J E M R Q cells slots μ tgt lv st F1) (k2 : J E M R Q cells slots μ (pc + 3) lv st F2) : J E M R Q cells slots μ pc lv (.inl y :: .inl x :: st) (if y ≤ x then F1 else F2) := by
  intro r hr p e s m args below meth c ls H locs fx ks wh lo hl
  exact lv_icmp_ge fx.1 fx.2.1 hd ht (fun hc => k1 r (by rw [if_pos hc] at hr; exact hr) p e s m args below meth c ls H locs fx ks wh lo hl) (fun hc => k2 r (by rw [if_neg hc] at hr; exact hr) p e s m args below meth c ls H locs fx ks wh lo hl)
theorem J_if_gt {x : Int32} {off : Int} {tgt : Nat} {F1 F2 : Option (LV × Mem)} (hd : decode M.2.1 pc = .ok (.ifCond .gt off, 3)) (ht : (pc : Int) + off = (tgt : Int)) (k1 : J E M R Q cells slots μ tgt lv st F1) (k2 : J E M R Q cells slots μ (pc + 3) lv st F2) : J E M R Q cells slots μ pc lv (.inl x :: st) (if 0 < x then F1 else F2) := by
  intro r hr p e s m args below meth c ls H locs fx ks wh lo hl
  exact lv_if_gt fx.1 fx.2.1 hd ht (fun hc => k1 r (by rw [if_pos hc] at hr; exact hr) p e s m args below meth c ls H locs fx ks wh lo hl) (fun hc => k2 r (by rw [if_neg hc] at hr; exact hr) p e s m args below meth c ls H locs fx ks wh lo hl)
theorem J_icmp_gt {x y : Int32} {off : Int} {tgt : Nat} {F1 F2 : Option (LV × Mem)} (hd : decode M.2.1 pc = .ok (.if_icmp .gt off, 3)) (ht : (pc : Int) + off = (tgt : Int)) (k1 : J E M R Q cells slots μ tgt lv st F1) (k2 : J E M R Q cells slots μ (pc + 3) lv st F2) : J E M R Q cells slots μ pc lv (.inl y :: .inl x :: st) (if y < x then F1 else F2) := by
  intro r hr p e s m args below meth c ls H locs fx ks wh lo hl
  exact lv_icmp_gt fx.1 fx.2.1 hd ht (fun hc => k1 r (by rw [if_pos hc] at hr; exact hr) p e s m args below meth c ls H locs fx ks wh lo hl) (fun hc => k2 r (by rw [if_neg hc] at hr; exact hr) p e s m args below meth c ls H locs fx ks wh lo hl)
theorem J_if_le {x : Int32} {off : Int} {tgt : Nat} {F1 F2 : Option (LV × Mem)} (hd : decode M.2.1 pc = .ok (.ifCond .le off, 3)) (ht : (pc : Int) + off = (tgt : Int)) (k1 : J E M R Q cells slots μ tgt lv st F1) (k2 : J E M R Q cells slots μ (pc + 3) lv st F2) : J E M R Q cells slots μ pc lv (.inl x :: st) (if x ≤ 0 then F1 else F2) := by
  intro r hr p e s m args below meth c ls H locs fx ks wh lo hl
  exact lv_if_le fx.1 fx.2.1 hd ht (fun hc => k1 r (by rw [if_pos hc] at hr; exact hr) p e s m args below meth c ls H locs fx ks wh lo hl) (fun hc => k2 r (by rw [if_neg hc] at hr; exact hr) p e s m args below meth c ls H locs fx ks wh lo hl)
theorem J_icmp_le {x y : Int32} {off : Int} {tgt : Nat} {F1 F2 : Option (LV × Mem)} (hd : decode M.2.1 pc = .ok (.if_icmp .le off, 3)) (ht : (pc : Int) + off = (tgt : Int)) (k1 : J E M R Q cells slots μ tgt lv st F1) (k2 : J E M R Q cells slots μ (pc + 3) lv st F2) : J E M R Q cells slots μ pc lv (.inl y :: .inl x :: st) (if x ≤ y then F1 else F2) := by
  intro r hr p e s m args below meth c ls H locs fx ks wh lo hl
  exact lv_icmp_le fx.1 fx.2.1 hd ht (fun hc => k1 r (by rw [if_pos hc] at hr; exact hr) p e s m args below meth c ls H locs fx ks wh lo hl) (fun hc => k2 r (by rw [if_neg hc] at hr; exact hr) p e s m args below meth c ls H locs fx ks wh lo hl)
theorem J_goto {off : Int} {tgt : Nat} (hd : decode M.2.1 pc = .ok (.goto off, 3)) (ht : (pc : Int) + off = (tgt : Int)) (k : J E M R Q cells slots μ tgt lv st F) : J E M R Q cells slots μ pc lv st F := by
  intro r hr p e s m args below meth c ls H locs fx ks wh lo hl
  exact lv_goto fx.1 fx.2.1 hd ht (k r hr p e s m args below meth c ls H locs fx ks wh lo hl)
theorem ra_ne {E : EV} {h : Nat} (hh : ¬ h = 0) : ∃ a, ra E h = some a := by
  match h, hh with
  | 0, hh => exact absurd rfl hh
  | 1, _ => exact ⟨_, rfl⟩
  | 2, _ => exact ⟨_, rfl⟩
  | 3, _ => exact ⟨_, rfl⟩
  | h + 4, _ => exact ⟨_, rfl⟩
theorem J_ifnull {h : Nat} {off : Int} {tgt : Nat} {F1 F2 : Option (LV × Mem)} (hd : decode M.2.1 pc = .ok (.ifnull off, 3)) (ht : (pc : Int) + off = (tgt : Int)) (k1 : J E M R Q cells slots μ tgt lv st F1) (k2 : J E M R Q cells slots μ (pc + 3) lv st F2) : J E M R Q cells slots μ pc lv (.inr h :: st) (if h = 0 then F1 else F2) := by
  intro r hr p e s m args below meth c ls H locs fx ks wh lo hl
  show W p E.1 e R s m args below meth c H locs cells slots (Q r below args s) (F0 m pc ls (va_rf (ra E h) :: st.map (tv E)))
  by_cases hh : h = 0
  · subst hh
    rw [if_pos rfl] at hr
    exact lv_ifnullN fx.1 fx.2.1 hd ht (k1 r hr p e s m args below meth c ls H locs fx ks wh lo hl)
  · rw [if_neg hh] at hr
    obtain ⟨a, ha⟩ := ra_ne (E := E) hh
    rw [ha]
    exact lv_ifnull fx.1 fx.2.1 hd (k2 r hr p e s m args below meth c ls H locs fx ks wh lo hl)
theorem J_ifnonnull {h : Nat} {off : Int} {tgt : Nat} {F1 F2 : Option (LV × Mem)} (hd : decode M.2.1 pc = .ok (.ifnonnull off, 3)) (ht : (pc : Int) + off = (tgt : Int)) (k1 : J E M R Q cells slots μ tgt lv st F1) (k2 : J E M R Q cells slots μ (pc + 3) lv st F2) : J E M R Q cells slots μ pc lv (.inr h :: st) (if h = 0 then F2 else F1) := by
  intro r hr p e s m args below meth c ls H locs fx ks wh lo hl
  show W p E.1 e R s m args below meth c H locs cells slots (Q r below args s) (F0 m pc ls (va_rf (ra E h) :: st.map (tv E)))
  by_cases hh : h = 0
  · subst hh
    rw [if_pos rfl] at hr
    exact lv_ifnonnullN fx.1 fx.2.1 hd (k2 r hr p e s m args below meth c ls H locs fx ks wh lo hl)
  · rw [if_neg hh] at hr
    obtain ⟨a, ha⟩ := ra_ne (E := E) hh
    rw [ha]
    exact lv_ifnonnull fx.1 fx.2.1 hd ht (k1 r hr p e s m args below meth c ls H locs fx ks wh lo hl)
end JR
