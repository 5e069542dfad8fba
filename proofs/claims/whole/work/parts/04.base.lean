/-! light worlds: a memory of cells by handles (0 null, 1 the library's empty row, 2 the script, 3 the class object of Object[], from 4 on what was made) -/
abbrev LV : Type := Int32 ⊕ Nat
abbrev Mem : Type := Nat × (Nat → Nat × Nat) × (Nat → Nat → Int32) × (Nat → Nat → Nat)
/-- launch, heap at the start, class numbers and slots, array classes (int, boolean, Object), (empty row, class object), (script, its length, its values) -/
abbrev EV : Type := Launch × Heap × va_G × (ClassId × ClassId × ClassId) × (Nat × Nat) × (Nat × Nat × (Nat → Int32))
def ra (E : EV) : Nat → Option Nat
  | 0 => none
  | 1 => some E.2.2.2.2.1.1
  | 2 => some E.2.2.2.2.2.1
  | 3 => some E.2.2.2.2.1.2
  | h + 4 => some (E.2.1.size + h)
def tv (E : EV) : LV → Value
  | .inl x => .int x
  | .inr h => va_rf (ra E h)
theorem tv_cat (E : EV) (x : LV) : (tv E x).category = 1 := by
  cases x with
  | inl x => rfl
  | inr h => show (va_rf (ra E h)).category = 1; cases ra E h <;> rfl
/-- (0, n) a row of n ints, (1, n) of booleans, (2, n) of objects, (c + 3, 0) an object of class number c -/
def shp (μ : Mem) (h : Nat) : Nat × Nat := if h = 1 then (2, 0) else if 4 ≤ h ∧ h < μ.1 + 4 then μ.2.1 h else (999, 0)
def gi (μ : Mem) (h k : Nat) : Int32 := μ.2.2.1 h k
def gr (μ : Mem) (h k : Nat) : Nat := μ.2.2.2 h k
def si (μ : Mem) (h k : Nat) (x : Int32) : Mem := (μ.1, μ.2.1, fun a j => if a = h ∧ j = k then x else μ.2.2.1 a j, μ.2.2.2)
def sr (μ : Mem) (h k : Nat) (x : Nat) : Mem := (μ.1, μ.2.1, μ.2.2.1, fun a j => if a = h ∧ j = k then x else μ.2.2.2 a j)
def nw (μ : Mem) (s : Nat × Nat) : Mem := (μ.1 + 1, fun a => if a = μ.1 + 4 then s else μ.2.1 a, fun a j => if a = μ.1 + 4 then 0 else μ.2.2.1 a j, fun a j => if a = μ.1 + 4 then 0 else μ.2.2.2 a j)
def nfl (c : Nat) : Nat := match classes[c]? with
  | some r => r.2.2
  | none => 0
def isr (c k : Nat) : Bool := match classes[c]? with
  | some r => !((r.2.1 k).2.2.1 == "I")
  | none => false
def fval (E : EV) (μ : Mem) (c h k : Nat) : Value := if isr c k = true then va_rf (ra E (gr μ h k)) else .int (gi μ h k)
def cellS (E : EV) (μ : Mem) (h : Nat) (s : Nat × Nat) : va_E := match s.1 with
  | 0 => .inl (E.2.2.2.1.1, s.2, .inl (gi μ h))
  | 1 => .inl (E.2.2.2.1.2.1, s.2, .inl (gi μ h))
  | 2 => .inl (E.2.2.2.1.2.2, s.2, .inr (.inr (.inr (.inr (fun j => ra E (gr μ h j))))))
  | c + 3 => .inr (c, (List.range (nfl c)).map (fval E μ c h))
def cellOf (E : EV) (μ : Mem) (h : Nat) : va_E := cellS E μ h (shp μ h)
def wl (E : EV) (μ : Mem) : va_W := (List.range μ.1).map (fun a => (E.2.1.size + a, cellOf E μ (a + 4)))
theorem wl_get (E : EV) (μ : Mem) {a : Nat} (h : a < μ.1) : (wl E μ)[a]? = some (E.2.1.size + a, cellOf E μ (a + 4)) := by
  simp [wl, h]
theorem wl_len (E : EV) (μ : Mem) : (wl E μ).length = μ.1 := by simp [wl]
theorem wl_inv (E : EV) (μ : Mem) {a : Nat} {q : Nat × va_E} (h : (wl E μ)[a]? = some q) : a < μ.1 ∧ q = (E.2.1.size + a, cellOf E μ (a + 4)) := by
  have h1 : a < (wl E μ).length := (List.getElem?_eq_some_iff.mp h).1
  rw [wl_len] at h1
  rw [wl_get E μ h1] at h
  exact ⟨h1, (Option.some.inj h).symm⟩
abbrev AE (E : EV) : Nat → Prop := fun q => E.2.1.size ≤ q
theorem wl_D (E : EV) (μ : Mem) : va_D (AE E) (wl E μ) := by
  refine ⟨fun i j p q hp hq e => ?_, fun k q hq => ?_⟩
  · obtain ⟨-, rfl⟩ := wl_inv E μ hp
    obtain ⟨-, rfl⟩ := wl_inv E μ hq
    simp at e
    exact e
  · obtain ⟨-, rfl⟩ := wl_inv E μ hq
    show E.2.1.size ≤ E.2.1.size + k
    omega
theorem wl_set (E : EV) {μ μ' : Mem} {a : Nat} (hn : μ'.1 = μ.1) (ho : ∀ b, b < μ.1 → b ≠ a → cellOf E μ' (b + 4) = cellOf E μ (b + 4)) : (wl E μ).set a (E.2.1.size + a, cellOf E μ' (a + 4)) = wl E μ' := by
  apply List.ext_getElem?
  intro b
  by_cases hb : b < μ.1
  · by_cases hab : b = a
    · subst hab
      rw [wl_get E μ' (by rw [hn]; exact hb), List.getElem?_set_self (by rw [wl_len]; exact hb)]
    · rw [List.getElem?_set_ne (fun q => hab q.symm), wl_get E μ hb, wl_get E μ' (by rw [hn]; exact hb), ho b hb hab]
  · have e1 : ((wl E μ).set a (E.2.1.size + a, cellOf E μ' (a + 4)))[b]? = none := by
      rw [List.getElem?_eq_none_iff, List.length_set, wl_len]; omega
    have e2 : (wl E μ')[b]? = none := by
      rw [List.getElem?_eq_none_iff, wl_len, hn]; omega
    rw [e1, e2]
/-- what holds of the tables, and of the cells that were there -/
def KS (E : EV) (s : State) : Prop := va_K E.2.2.1 classes [(E.2.2.2.1.1, .int), (E.2.2.2.1.2.1, .boolean), (E.2.2.2.1.2.2, .object "java/lang/Object")] s ∧
  va_Z "java/util/ArrayList" "DEFAULTCAPACITY_EMPTY_ELEMENTDATA" "[Ljava/lang/Object;" (.ref E.2.2.2.2.1.1) (AE E) s E.2.1 ∧ va_T (.object "java/lang/Object") E.2.2.2.2.1.1 0 (fun _ => .null) (AE E) s E.2.1 ∧
  va_Mi "[Ljava/lang/Object;" E.2.2.2.2.1.2 s ∧ va_X E.2.2.2.2.2.1 E.2.2.2.2.2.2.1 E.2.2.2.2.2.2.2 s E.2.1 ∧ E.2.2.2.2.2.1 < E.2.1.size ∧ (∀ w ∈ ntbl, va_Nw w s) ∧ va_AO "java/lang/Object" s
theorem nw_moved {s U : State} (hW : s.WarmedH U.vm) (h : ∀ w ∈ ntbl, va_Nw w s) : ∀ w ∈ ntbl, va_Nw w U := by
  intro w hw
  have h1 := h w hw
  have h2 := (List.mem_filter.mp hw).2
  cases w <;> first | (simp [nword] at h2; done) | exact va_Nw.warmC hW h1 | exact va_Nw.warmM hW h1 | exact va_Nw.warmD hW h1
theorem nw_same {s U : State} (hv : s.vm = U.vm) (h : ∀ w ∈ ntbl, va_Nw w s) : ∀ w ∈ ntbl, va_Nw w U := by
  intro w hw
  have h1 := h w hw
  have h2 := (List.mem_filter.mp hw).2
  cases w <;> first | (simp [nword] at h2; done) | exact va_Nw.same rfl hv h1
theorem KS.warm {E : EV} {s U : State} (hW : s.WarmedH U.vm) (h : KS E s) : KS E U := by
  obtain ⟨h1, h2, h3, h4, h5, h6, h7, h8⟩ := h
  exact ⟨h1.moved hW.alike, h2.moved hW.alike, h3.moved hW.alike, h4.moved hW.alike, h5.moved hW.alike, h6, nw_moved hW h7, h8.moved hW.alike⟩
theorem KS.same {E : EV} {s U : State} (hv : s.vm = U.vm) (h : KS E s) : KS E U := by
  obtain ⟨h1, h2, h3, h4, h5, h6, h7, h8⟩ := h
  have al : s.vm.Alike U.vm := hv ▸ Vm.Alike.refl s.vm
  exact ⟨h1.moved al, h2.moved al, h3.moved al, h4.moved al, h5.moved al, h6, nw_same hv h7, h8.moved al⟩
def Fx (M : MI) (p : Program) (s : State) (m : MethodId) (args : Array Value) (meth : Method) (c : Code) : Prop :=
  p.tables.exec = Jvm.exec ∧ c.code = M.2.1 ∧ c.maxLocals = M.2.2.1 ∧ s.vm.findClass M.1.cls = some m.cls ∧ (∀ w ∈ gtbl, w.before args s = true) ∧ meth.sig.returnType = M.2.2.2 ∧ meth.locks = false ∧ meth.name = M.1.name
def LVok (E : EV) (ls : Array Slot) (nL : Nat) (lv : List (Option LV)) : Prop := ls.size = nL ∧ lv_wf ls ∧ ∀ (i : Nat) (x : LV), lv[i]? = some (some x) → ls[i]? = some (.val (tv E x))
/-- the heap holds the memory; what was there is as it was -/
def WH (E : EV) (μ : Mem) (H : Heap) : Prop := va_P E.2.2.1 classes (wl E μ) H ∧ (∀ q : Nat, q < E.2.1.size → H[q]? = E.2.1[q]?) ∧ H.size = E.2.1.size + μ.1
/-- the machine at pc, with locals lv and operands st, in the memory μ, comes to Q -/
def LJ (E : EV) (M : MI) (R : Room) (Q : List Frame → Array Value → State → State → Prop) (cells slots : Nat) (μ : Mem) (pc : Nat) (lv : List (Option LV)) (st : List LV) : Prop :=
  ∀ (p : Program) (e : Env) (s : State) (m : MethodId) (args : Array Value) (below : List Frame) (meth : Method) (c : Code) (ls : Array Slot) (H : Heap) (locs : List Loc),
    Fx M p s m args meth c → KS E s → WH E μ H → (∀ q ∈ locs, AE E q.base) → LVok E ls M.2.2.1 lv → W p E.1 e R s m args below meth c H locs cells slots (Q below args s) (F0 m pc ls (st.map (tv E)))
/-- if the function's value is r, the machine comes to what r says -/
def J (E : EV) (M : MI) (R : Room) (Q : LV × Mem → List Frame → Array Value → State → State → Prop) (cells slots : Nat) (μ : Mem) (pc : Nat) (lv : List (Option LV)) (st : List LV) (F : Option (LV × Mem)) : Prop :=
  ∀ r, F = some r → LJ E M R (Q r) cells slots μ pc lv st
def rto (E : EV) (M : MI) (v : LV) : Option Value := match M.2.2.2 with
  | none => none
  | some _ => some (tv E v)
def Qr (E : EV) (M : MI) (r : LV × Mem) : Array Value → State → Outcome → State → Prop := fun _ _ o t => o = .returned (rto E M r.1) ∧ WH E r.2 t.heap
def QR (E : EV) (M : MI) (R : Room) (r : LV × Mem) (below : List Frame) (args : Array Value) (s : State) : State → Prop := MQ below (Qr E M r) args s R.cells R.slots (AE E)
abbrev wsy (M : MI) : List Cond := .code M.1 M.2.1 M.2.2.1 M.2.2.2 :: gtbl
/-- the method's contract: from the memory μ, with these arguments: it answers as F says -/
def Ct (E : EV) (M : MI) (R : Room) (as : List LV) (μ : Mem) (F : Option (LV × Mem)) : Prop :=
  ∀ r, F = some r → Met E.1 M.1 (wsy M) R (va_Pc (as.map (tv E)) (fun U => WH E μ U.heap ∧ KS E U)) (Qr E M r) R.cells R.slots (AE E)
theorem lv_entry_ok (E : EV) (as : List LV) (n k : Nat) (hk : n = as.length + k) : LVok E ((lg_sl (as.map (tv E)) ++ List.replicate (n - (lg_sl (as.map (tv E))).length) Slot.unset).toArray) n (as.map some ++ List.replicate k none) := by
  have hsl : ∀ l : List LV, lg_sl (l.map (tv E)) = l.map (fun x => Slot.val (tv E x)) := by
    intro l
    induction l with
    | nil => rfl
    | cons a t ih =>
      have hc := tv_cat E a
      simp only [List.map_cons]
      first
        | (rw [lg_sl, ih]; simp [hc]; done)
        | (simp [lg_sl, hc] at ih ⊢; exact ih)
  have hlen : (lg_sl (as.map (tv E))).length = as.length := by rw [hsl]; simp
  have h := lv_entry (as.map (tv E)) (n := n) (by rw [hlen]; omega)
  refine ⟨h.1, h.2.1, fun i x hx => ?_⟩
  have hi : i < as.length := by
    rcases Nat.lt_or_ge i as.length with q | q
    · exact q
    · rw [List.getElem?_append_right (by simpa using q)] at hx
      have hm := List.mem_of_getElem? hx
      simp at hm
  rw [List.getElem?_append_left (by simpa using hi)] at hx
  have hx2 : as[i]? = some x := by simpa using hx
  rw [List.getElem?_toArray, hsl, List.getElem?_append_left (by simpa using hi)]
  simp [hx2]
