/-! the law: every call answered alike -/
theorem e_s {xs : Nat → Int32} {L j : Nat} (hL : L ≤ 2560) (h : j < L) (K : Int32 → Option (LV × Mem)) : sI xs L (nI j) K = K (xs j) := by
  unfold sI
  rw [if_pos (inb_nI h (by omega)), cl_nI (by omega)]
theorem e_s1 {xs : Nat → Int32} {L i : Nat} (hL : L ≤ 2560) (h : i + 5 ≤ L) (K : Int32 → Option (LV × Mem)) : sI xs L (nI i + 1) K = K (xs (i + 1)) := by
  rw [show nI i + 1 = nI (i + 1) from nI_add i 1]
  exact e_s hL (by omega) K
theorem e_s2 {xs : Nat → Int32} {L i : Nat} (hL : L ≤ 2560) (h : i + 5 ≤ L) (K : Int32 → Option (LV × Mem)) : sI xs L (nI i + 2) K = K (xs (i + 2)) := by
  rw [show nI i + 2 = nI (i + 2) from nI_add i 2]
  exact e_s hL (by omega) K
theorem e_s3 {xs : Nat → Int32} {L i : Nat} (hL : L ≤ 2560) (h : i + 5 ≤ L) (K : Int32 → Option (LV × Mem)) : sI xs L (nI i + 3) K = K (xs (i + 3)) := by
  rw [show nI i + 3 = nI (i + 3) from nI_add i 3]
  exact e_s hL (by omega) K
theorem e_s4 {xs : Nat → Int32} {L i : Nat} (hL : L ≤ 2560) (h : i + 5 ≤ L) (K : Int32 → Option (LV × Mem)) : sI xs L (nI i + 4) K = K (xs (i + 4)) := by
  rw [show nI i + 4 = nI (i + 4) from nI_add i 4]
  exact e_s hL (by omega) K
theorem law_op {xs : Nat → Int32} {L n i : Nat} {X Y : Mem → Option (LV × Mem)} {μ : Mem} (inv : Inv μ) (ih : ∀ μ, Inv μ → ∃ μ', k_L_law_18 xs L 4 27 n (nI i + 5) μ = some (.inl 1, μ')) (o : Opx X Y μ) : ∃ μ', cV 9 4 μ (bI (X μ) (fun v μ1 => cV 10 27 μ1 (bI (Y μ1) (fun v2 μ2 => if v = v2 then k_L_law_18 xs L 4 27 n (nI i + 5) μ2 else some (.inl 0, μ2))))) = some (.inl 1, μ') := by
  obtain ⟨v, μ1, μ2, a1, a2, a3, a4⟩ := o
  rw [e_cV4 inv.1, a1, e_bI, e_cV27 a2, a3, e_bI, if_pos rfl]
  exact ih μ2 a4
set_option maxRecDepth 20000 in
set_option maxHeartbeats 4000000 in
theorem law_loop (xs : Nat → Int32) {L : Nat} (hL : L ≤ 2560) : ∀ n i μ, i ≤ L → L < i + 5 * n → Inv μ → ∃ μ', k_L_law_18 xs L 4 27 n (nI i) μ = some (.inl 1, μ')
  | 0, i, μ, h1, h2, _ => by omega
  | n + 1, i, μ, h1, h2, inv => by
    have eL : (Int32.ofNat L - 5).toInt = (L : Int) - 5 := by
      have e : (Int32.ofNat L).toInt = (L : Int) := ti_nI (p := L) (by omega)
      rw [sub_ti (by rw [e]; simp; omega) (by rw [e]; simp; omega), e]
      rfl
    simp only [k_L_law_18]
    by_cases q : L < i + 5
    · rw [if_pos (by rw [i32_lt, eL, ti_nI (by omega)]; omega)]
      exact ⟨μ, rfl⟩
    · have h5 : i + 5 ≤ L := by omega
      have ih : ∀ μ, Inv μ → ∃ μ', k_L_law_18 xs L 4 27 n (nI i + 5) μ = some (.inl 1, μ') := fun μ inv => by
        rw [show nI i + 5 = nI (i + 5) from nI_add i 5]
        exact law_loop xs hL n (i + 5) μ h5 (by omega) inv
      rw [if_neg (by rw [i32_lt, eL, ti_nI (by omega)]; omega)]
      simp only [e_s (j := i) hL (by omega), e_s1 hL h5, e_s2 hL h5, e_s3 hL h5, e_s4 hL h5, e_nm]
      by_cases c0 : xs i &&& 31 = 0
      · rw [if_pos c0]
        exact law_op inv ih (op_station inv (xs (i + 1)) (xs (i + 2)) (xs (i + 3)))
      rw [if_neg c0]
      by_cases c1 : xs i &&& 31 = 1
      · rw [if_pos c1]
        exact law_op inv ih (op_person inv (xs (i + 1)) (xs (i + 2)) (xs (i + 3)))
      rw [if_neg c1]
      by_cases c2 : xs i &&& 31 = 2
      · rw [if_pos c2]
        exact law_op inv ih (op_papers inv (xs (i + 1)) (xs (i + 2)))
      rw [if_neg c2]
      by_cases c3 : xs i &&& 31 = 3
      · rw [if_pos c3]
        by_cases z : xs (i + 2) = 0
        · simp only [if_pos z]
          exact law_op inv ih (op_page inv (xs (i + 1)) 0)
        · simp only [if_neg z]
          exact law_op inv ih (op_page inv (xs (i + 1)) 1)
      rw [if_neg c3]
      by_cases c4 : xs i &&& 31 = 4
      · rw [if_pos c4]
        exact law_op inv ih (op_partOf inv (xs (i + 1)) (xs (i + 2)))
      rw [if_neg c4]
      by_cases c5 : xs i &&& 31 = 5
      · rw [if_pos c5]
        exact law_op inv ih (op_set inv (xs (i + 1)) (xs (i + 2)))
      rw [if_neg c5]
      by_cases c6 : xs i &&& 31 = 6
      · rw [if_pos c6]
        exact law_op inv ih (op_chance inv (xs (i + 1)) (xs (i + 2)))
      rw [if_neg c6]
      by_cases c7 : xs i &&& 31 = 7
      · rw [if_pos c7]
        exact law_op inv ih (op_weak inv (xs (i + 1)) (xs (i + 2)))
      rw [if_neg c7]
      by_cases c8 : xs i &&& 31 = 8
      · rw [if_pos c8]
        exact law_op inv ih (op_tide inv (xs (i + 1)) (xs (i + 2)))
      rw [if_neg c8]
      by_cases c9 : xs i &&& 31 = 9
      · rw [if_pos c9]
        exact law_op inv ih (op_slip inv (xs (i + 1)) (xs (i + 2)))
      rw [if_neg c9]
      by_cases c10 : xs i &&& 31 = 10
      · rw [if_pos c10]
        exact law_op inv ih (op_minutes inv (xs (i + 1)))
      rw [if_neg c10]
      by_cases c11 : xs i &&& 31 = 11
      · rw [if_pos c11]
        exact law_op inv ih (op_boat inv (xs (i + 1)) (xs (i + 2)))
      rw [if_neg c11]
      by_cases c12 : xs i &&& 31 = 12
      · rw [if_pos c12]
        exact law_op inv ih (op_speed inv (xs (i + 1)) (xs (i + 2)) (xs (i + 3)))
      rw [if_neg c12]
      by_cases c13 : xs i &&& 31 = 13
      · rw [if_pos c13]
        exact law_op inv ih (op_move inv (xs (i + 1)) (xs (i + 2)))
      rw [if_neg c13]
      by_cases c14 : xs i &&& 31 = 14
      · rw [if_pos c14]
        exact law_op inv ih (op_call inv (xs (i + 1)) (xs (i + 2)) (xs (i + 3)))
      rw [if_neg c14]
      by_cases c15 : xs i &&& 31 = 15
      · rw [if_pos c15]
        exact law_op inv ih (op_reach inv (xs (i + 1)) (xs (i + 2)) (xs (i + 3)))
      rw [if_neg c15]
      by_cases c16 : xs i &&& 31 = 16
      · rw [if_pos c16]
        exact law_op inv ih (op_first inv (xs (i + 1)))
      rw [if_neg c16]
      by_cases c17 : xs i &&& 31 = 17
      · rw [if_pos c17]
        exact law_op inv ih (op_two inv (xs (i + 1)) (xs (i + 2)) (xs (i + 3)))
      rw [if_neg c17]
      by_cases c18 : xs i &&& 31 = 18
      · rw [if_pos c18]
        by_cases z : xs (i + 4) = 0
        · simp only [if_pos z]
          exact law_op inv ih (op_send inv (xs (i + 1)) (xs (i + 2)) (xs (i + 3)) 0)
        · simp only [if_neg z]
          exact law_op inv ih (op_send inv (xs (i + 1)) (xs (i + 2)) (xs (i + 3)) 1)
      rw [if_neg c18]
      by_cases c19 : xs i &&& 31 = 19
      · rw [if_pos c19]
        exact law_op inv ih (op_log inv (xs (i + 1)) (xs (i + 2)))
      rw [if_neg c19]
      by_cases c20 : xs i &&& 31 = 20
      · rw [if_pos c20]
        exact law_op inv ih (op_covered inv (xs (i + 1)))
      rw [if_neg c20]
      by_cases c21 : xs i &&& 31 = 21
      · rw [if_pos c21]
        exact law_op inv ih (op_flanks inv (xs (i + 1)))
      rw [if_neg c21]
      by_cases c22 : xs i &&& 31 = 22
      · rw [if_pos c22]
        exact law_op inv ih (op_flank inv (xs (i + 1)))
      rw [if_neg c22]
      by_cases c23 : xs i &&& 31 = 23
      · rw [if_pos c23]
        exact law_op inv ih (op_box inv (xs (i + 1)) (xs (i + 2)))
      rw [if_neg c23]
      by_cases c24 : xs i &&& 31 = 24
      · rw [if_pos c24]
        exact law_op inv ih (op_look inv (xs (i + 1)) (xs (i + 2)))
      rw [if_neg c24]
      by_cases c25 : xs i &&& 31 = 25
      · rw [if_pos c25]
        exact law_op inv ih (op_looks inv (xs (i + 1)) (xs (i + 2)))
      rw [if_neg c25]
      by_cases c26 : xs i &&& 31 = 26
      · rw [if_pos c26]
        exact law_op inv ih (op_lookAt inv (xs (i + 1)) (xs (i + 2)) (xs (i + 3)))
      rw [if_neg c26]
      by_cases c27 : xs i &&& 31 = 27
      · rw [if_pos c27]
        exact law_op inv ih (op_rest inv (xs (i + 1)) (xs (i + 2)))
      rw [if_neg c27]
      by_cases c28 : xs i &&& 31 = 28
      · rw [if_pos c28]
        exact law_op inv ih (op_turn inv (xs (i + 1)) (xs (i + 2)))
      rw [if_neg c28]
      by_cases c29 : xs i &&& 31 = 29
      · rw [if_pos c29]
        exact law_op inv ih (op_personOf inv (xs (i + 1)) (xs (i + 2)))
      rw [if_neg c29]
      by_cases c30 : xs i &&& 31 = 30
      · rw [if_pos c30]
        exact law_op inv ih (op_count inv (xs (i + 1)))
      rw [if_neg c30]
      exact ih μ inv
theorem law_pure (xs : Nat → Int32) {L : Nat} (hL : L ≤ 2560) : ∃ μ' : Mem, f_L_law xs L (0, fun _ => (0, 0), fun _ _ => 0, fun _ _ => 0) = some (.inl 1, μ') := by
  obtain ⟨μ', h⟩ := law_loop xs hL 600 0 muI (Nat.zero_le _) (by omega) muI_Inv
  exact ⟨μ', Eq.trans (law_init xs L) h⟩
