/-! functions and walks, by program: jdk -/
def f_AC_init (a0 : Nat) (μ : Mem) : Option (LV × Mem) := cN a0 ((some (.inl 0, μ)))
set_option maxRecDepth 20000 in
theorem c_AC_init (E : EV) (a0 : Nat) (μ : Mem) : Ct E I_AC_init (rmk 1 0 0) [.inr a0] μ (f_AC_init a0 μ) := by
  refine Ct.of (k := 0) (by decide +kernel) rfl ?_
  show J E I_AC_init (rmk 1 0 0) (QR E I_AC_init (rmk 1 0 0)) 0 0 μ 0 [some (.inr a0)] [] (f_AC_init a0 μ)
  unfold f_AC_init
  refine J_aload_n zd_AC_init_0 rfl ?_
  refine J_obj zd_AC_init_1 zw_40 zw_27 zw_28 (Nat.le_of_ble_eq_true rfl) (Nat.le_of_ble_eq_true rfl) (Nat.le_of_ble_eq_true rfl) ?_
  exact J_vret zd_AC_init_4 rfl (Nat.le_of_ble_eq_true rfl) (Nat.le_of_ble_eq_true rfl)
def f_AB_init (a0 : Nat) (μ : Mem) : Option (LV × Mem) := cN a0 (bV (f_AC_init a0 μ) (fun μ1 => pI 11 a0 0 0 μ1 (fun μ2 => (some (.inl 0, μ2)))))
set_option maxRecDepth 20000 in
theorem c_AB_init (E : EV) (a0 : Nat) (μ : Mem) : Ct E I_AB_init (rmk 2 0 0) [.inr a0] μ (f_AB_init a0 μ) := by
  refine Ct.of (k := 0) (by decide +kernel) rfl ?_
  show J E I_AB_init (rmk 2 0 0) (QR E I_AB_init (rmk 2 0 0)) 0 0 μ 0 [some (.inr a0)] [] (f_AB_init a0 μ)
  unfold f_AB_init
  refine J_aload_n zd_AB_init_0 rfl ?_
  refine J_callI (as := []) zd_AB_init_1 zm_AC_init ⟨Nat.le_of_ble_eq_true rfl, Nat.le_of_ble_eq_true rfl⟩ zw_37 zw_38 rfl rfl (Nat.le_of_ble_eq_true rfl) ⟨Nat.le_of_ble_eq_true rfl, Nat.le_of_ble_eq_true rfl⟩ rfl rfl (c_AC_init E _ _) (fun μ1 => ?_)
  refine J_aload_n zd_AB_init_4 rfl ?_
  refine J_iconst (v := 0) zd_AB_init_5 (by decide) ?_
  refine J_pI zd_AB_init_6 zf_AB_7 ⟨zt_AL, zn_AL, Or.inl rfl⟩ rfl rfl (fun μ2 => ?_)
  exact J_vret zd_AB_init_9 rfl (Nat.le_of_ble_eq_true rfl) (Nat.le_of_ble_eq_true rfl)
def f_AL_init (a0 : Nat) (μ : Mem) : Option (LV × Mem) := cN a0 (bV (f_AB_init a0 μ) (fun μ1 => pR 11 a0 1 1 μ1 (fun μ2 => (some (.inl 0, μ2)))))
set_option maxRecDepth 20000 in
theorem c_AL_init (E : EV) (a0 : Nat) (μ : Mem) : Ct E I_AL_init (rmk 3 0 0) [.inr a0] μ (f_AL_init a0 μ) := by
  refine Ct.of (k := 0) (by decide +kernel) rfl ?_
  show J E I_AL_init (rmk 3 0 0) (QR E I_AL_init (rmk 3 0 0)) 0 0 μ 0 [some (.inr a0)] [] (f_AL_init a0 μ)
  unfold f_AL_init
  refine J_aload_n zd_AL_init_0 rfl ?_
  refine J_callI (as := []) zd_AL_init_1 zm_AB_init ⟨Nat.le_of_ble_eq_true rfl, Nat.le_of_ble_eq_true rfl⟩ zw_34 zw_35 rfl rfl (Nat.le_of_ble_eq_true rfl) ⟨Nat.le_of_ble_eq_true rfl, Nat.le_of_ble_eq_true rfl⟩ rfl rfl (c_AB_init E _ _) (fun μ1 => ?_)
  refine J_aload_n zd_AL_init_4 rfl ?_
  refine J_gets zd_AL_init_5 zw_41 ?_
  refine J_pR zd_AL_init_8 zf_AL_9 ⟨zt_AL, zn_AL, Or.inl rfl⟩ (Or.inr ⟨_, rfl⟩) rfl (fun μ2 => ?_)
  exact J_vret zd_AL_init_11 rfl (Nat.le_of_ble_eq_true rfl) (Nat.le_of_ble_eq_true rfl)
def k_AR_fill_5  (a0 : Nat) (a1 : Int32) (a3 : Int32) : Nat → Int32 → Mem → Option (LV × Mem)
  | 0, _, _ => none
  | n + 1, a2, μ => (if a3 ≤ a2 then (some (.inl 0, μ)) else aS a0 a2 a1 μ (fun μ1 => (k_AR_fill_5 a0 a1 a3 n (a2 + 1) μ1)))
set_option maxRecDepth 20000 in
theorem j_AR_fill_5 (E : EV) (a0 : Nat) (a1 : Int32) (a3 : Int32)  : ∀ (n : Nat) (a2 : Int32) (μ : Mem), J E I_AR_fill (rmk 1 0 0) (QR E I_AR_fill (rmk 1 0 0)) 0 0 μ 5 [some (.inr a0), some (.inl a1), some (.inl a2), some (.inl a3)] [] (k_AR_fill_5 a0 a1 a3 n a2 μ)
  | 0, _, _ => J_none
  | n + 1, a2, μ => by
    show J E I_AR_fill (rmk 1 0 0) (QR E I_AR_fill (rmk 1 0 0)) 0 0 μ 5 [some (.inr a0), some (.inl a1), some (.inl a2), some (.inl a3)] [] ((if a3 ≤ a2 then (some (.inl 0, μ)) else aS a0 a2 a1 μ (fun μ1 => (k_AR_fill_5 a0 a1 a3 n (a2 + 1) μ1))))
    refine J_iload_n zd_AR_fill_5 rfl ?_
    refine J_iload_n zd_AR_fill_6 rfl ?_
    refine J_icmp_ge (tgt := 20) zd_AR_fill_7 rfl ?_ ?_
    · exact J_vret zd_AR_fill_20 rfl (Nat.le_of_ble_eq_true rfl) (Nat.le_of_ble_eq_true rfl)
    · refine J_aload_n zd_AR_fill_10 rfl ?_
      refine J_iload_n zd_AR_fill_11 rfl ?_
      refine J_iload_n zd_AR_fill_12 rfl ?_
      refine J_aS zd_AR_fill_13 (fun μ1 => ?_)
      refine J_iinc (v := _ + 1) (lv' := [some _, some _, some _, some _]) zd_AR_fill_14 (Nat.le_of_ble_eq_true rfl) rfl (by rfl) rfl ?_
      refine J_goto (tgt := 5) zd_AR_fill_17 rfl ?_
      refine J_wid (k := 0) (n := 0) (Nat.le_of_ble_eq_true rfl) (Nat.le_of_ble_eq_true rfl) ?_
      refine J_keep [true, true, true, true] rfl ?_
      exact j_AR_fill_5 E a0 a1 a3 n _ _
def f_AR_fill (a0 : Nat) (a1 : Int32) (μ : Mem) : Option (LV × Mem) := aL a0 μ (fun v2 => (k_AR_fill_5 a0 a1 v2 120000 0 μ))
set_option maxRecDepth 20000 in
theorem c_AR_fill (E : EV) (a0 : Nat) (a1 : Int32) (μ : Mem) : Ct E I_AR_fill (rmk 1 0 0) [.inr a0, .inl a1] μ (f_AR_fill a0 a1 μ) := by
  refine Ct.of (k := 2) (by decide +kernel) rfl ?_
  show J E I_AR_fill (rmk 1 0 0) (QR E I_AR_fill (rmk 1 0 0)) 0 0 μ 0 [some (.inr a0), some (.inl a1), none, none] [] (f_AR_fill a0 a1 μ)
  unfold f_AR_fill
  refine J_iconst (v := 0) zd_AR_fill_0 (by decide) ?_
  refine J_istore_n (lv' := [some _, some _, some _, none]) zd_AR_fill_1 (Nat.le_of_ble_eq_true rfl) rfl ?_
  refine J_aload_n zd_AR_fill_2 rfl ?_
  refine J_aL zd_AR_fill_3 (fun v2 => ?_)
  refine J_istore_n (lv' := [some _, some _, some _, some _]) zd_AR_fill_4 (Nat.le_of_ble_eq_true rfl) rfl ?_
  refine J_wid (k := 0) (n := 0) (Nat.le_of_ble_eq_true rfl) (Nat.le_of_ble_eq_true rfl) ?_
  refine J_keep [true, true, true, true] rfl ?_
  exact j_AR_fill_5 E _ _ _ _ _ _
def f_AL_size (a0 : Nat) (μ : Mem) : Option (LV × Mem) := gI 11 a0 2 μ (fun v1 => (some (.inl v1, μ)))
set_option maxRecDepth 20000 in
theorem c_AL_size (E : EV) (a0 : Nat) (μ : Mem) : Ct E I_AL_size (rmk 1 0 0) [.inr a0] μ (f_AL_size a0 μ) := by
  refine Ct.of (k := 0) (by decide +kernel) rfl ?_
  show J E I_AL_size (rmk 1 0 0) (QR E I_AL_size (rmk 1 0 0)) 0 0 μ 0 [some (.inr a0)] [] (f_AL_size a0 μ)
  unfold f_AL_size
  refine J_aload_n zd_AL_size_0 rfl ?_
  refine J_gI zd_AL_size_1 zf_AL_48 rfl (fun v1 => ?_)
  exact J_iret zd_AL_size_4 rfl (Nat.le_of_ble_eq_true rfl) (Nat.le_of_ble_eq_true rfl)
def f_MA_max (a0 : Int32) (a1 : Int32) (μ : Mem) : Option (LV × Mem) := (if a0 < a1 then (some (.inl a1, μ)) else (some (.inl a0, μ)))
set_option maxRecDepth 20000 in
theorem c_MA_max (E : EV) (a0 : Int32) (a1 : Int32) (μ : Mem) : Ct E I_MA_max (rmk 1 0 0) [.inl a0, .inl a1] μ (f_MA_max a0 a1 μ) := by
  refine Ct.of (k := 0) (by decide +kernel) rfl ?_
  show J E I_MA_max (rmk 1 0 0) (QR E I_MA_max (rmk 1 0 0)) 0 0 μ 0 [some (.inl a0), some (.inl a1)] [] (f_MA_max a0 a1 μ)
  unfold f_MA_max
  refine J_iload_n zd_MA_max_0 rfl ?_
  refine J_iload_n zd_MA_max_1 rfl ?_
  refine J_icmp_lt (tgt := 9) zd_MA_max_2 rfl ?_ ?_
  · refine J_iload_n zd_MA_max_9 rfl ?_
    exact J_iret zd_MA_max_10 rfl (Nat.le_of_ble_eq_true rfl) (Nat.le_of_ble_eq_true rfl)
  · refine J_iload_n zd_MA_max_5 rfl ?_
    refine J_goto (tgt := 10) zd_MA_max_6 rfl ?_
    exact J_iret zd_MA_max_10 rfl (Nat.le_of_ble_eq_true rfl) (Nat.le_of_ble_eq_true rfl)
def f_AS_hugeLength (a0 : Int32) (a1 : Int32) (μ : Mem) : Option (LV × Mem) := nm (a0 + a1) (fun v1 => (if 0 ≤ v1 then (if 2147483639 < v1 then (some (.inl v1, μ)) else (some (.inl 2147483639, μ))) else none))
set_option maxRecDepth 20000 in
theorem c_AS_hugeLength (E : EV) (a0 : Int32) (a1 : Int32) (μ : Mem) : Ct E I_AS_hugeLength (rmk 1 0 0) [.inl a0, .inl a1] μ (f_AS_hugeLength a0 a1 μ) := by
  refine Ct.of (k := 1) (by decide +kernel) rfl ?_
  show J E I_AS_hugeLength (rmk 1 0 0) (QR E I_AS_hugeLength (rmk 1 0 0)) 0 0 μ 0 [some (.inl a0), some (.inl a1), none] [] (f_AS_hugeLength a0 a1 μ)
  unfold f_AS_hugeLength
  refine J_iload_n zd_AS_hugeLength_0 rfl ?_
  refine J_iload_n zd_AS_hugeLength_1 rfl ?_
  refine J_iadd zd_AS_hugeLength_2 ?_
  refine J_nm (fun v1 => ?_)
  refine J_istore_n (lv' := [some _, some _, some _]) zd_AS_hugeLength_3 (Nat.le_of_ble_eq_true rfl) rfl ?_
  refine J_iload_n zd_AS_hugeLength_4 rfl ?_
  refine J_if_ge (tgt := 49) zd_AS_hugeLength_5 rfl ?_ ?_
  · refine J_iload_n zd_AS_hugeLength_49 rfl ?_
    refine J_ldc zd_AS_hugeLength_50 zw_282 ?_
    refine J_icmp_gt (tgt := 58) zd_AS_hugeLength_52 rfl ?_ ?_
    · refine J_iload_n zd_AS_hugeLength_58 rfl ?_
      exact J_iret zd_AS_hugeLength_59 rfl (Nat.le_of_ble_eq_true rfl) (Nat.le_of_ble_eq_true rfl)
    · refine J_ldc zd_AS_hugeLength_55 zw_282 ?_
      exact J_iret zd_AS_hugeLength_57 rfl (Nat.le_of_ble_eq_true rfl) (Nat.le_of_ble_eq_true rfl)
  · exact J_none
def b_AS_newLength_21  (a0 : Int32) (a1 : Int32)  (μ : Mem) : Option (LV × Mem) := bI (f_AS_hugeLength a0 a1 μ) (fun v2 μ1 => (some (.inl v2, μ1)))
set_option maxRecDepth 20000 in
theorem j_AS_newLength_21 (E : EV) (a0 : Int32) (a1 : Int32)  (μ : Mem)  : J E I_AS_newLength (rmk 2 0 0) (QR E I_AS_newLength (rmk 2 0 0)) 0 0 μ 21 [some (.inl a0), some (.inl a1), none, none] [] (b_AS_newLength_21 a0 a1 μ) := by
  unfold b_AS_newLength_21
  refine J_iload_n zd_AS_newLength_21 rfl ?_
  refine J_iload_n zd_AS_newLength_22 rfl ?_
  refine J_callSi (as := [.inl _, .inl _]) zd_AS_newLength_23 zm_AS_hugeLength ⟨Nat.le_of_ble_eq_true rfl, Nat.le_of_ble_eq_true rfl⟩ zw_283 zw_284 rfl (Nat.le_of_ble_eq_true rfl) ⟨Nat.le_of_ble_eq_true rfl, Nat.le_of_ble_eq_true rfl⟩ rfl rfl (c_AS_hugeLength E _ _ _) (fun v2 μ1 => ?_)
  exact J_iret zd_AS_newLength_26 rfl (Nat.le_of_ble_eq_true rfl) (Nat.le_of_ble_eq_true rfl)
def f_AS_newLength (a0 : Int32) (a1 : Int32) (a2 : Int32) (μ : Mem) : Option (LV × Mem) := bI (f_MA_max a1 a2 μ) (fun v4 μ3 => nm (a0 + v4) (fun v5 => (if v5 ≤ 0 then (b_AS_newLength_21 a0 a1 μ3) else (if 2147483639 < v5 then (b_AS_newLength_21 a0 a1 μ3) else (some (.inl v5, μ3))))))
set_option maxRecDepth 20000 in
theorem c_AS_newLength (E : EV) (a0 : Int32) (a1 : Int32) (a2 : Int32) (μ : Mem) : Ct E I_AS_newLength (rmk 2 0 0) [.inl a0, .inl a1, .inl a2] μ (f_AS_newLength a0 a1 a2 μ) := by
  refine Ct.of (k := 1) (by decide +kernel) rfl ?_
  show J E I_AS_newLength (rmk 2 0 0) (QR E I_AS_newLength (rmk 2 0 0)) 0 0 μ 0 [some (.inl a0), some (.inl a1), some (.inl a2), none] [] (f_AS_newLength a0 a1 a2 μ)
  unfold f_AS_newLength
  refine J_iload_n zd_AS_newLength_0 rfl ?_
  refine J_iload_n zd_AS_newLength_1 rfl ?_
  refine J_iload_n zd_AS_newLength_2 rfl ?_
  refine J_callSi (as := [.inl _, .inl _]) zd_AS_newLength_3 zm_MA_max ⟨Nat.le_of_ble_eq_true rfl, Nat.le_of_ble_eq_true rfl⟩ zw_279 zw_280 rfl (Nat.le_of_ble_eq_true rfl) ⟨Nat.le_of_ble_eq_true rfl, Nat.le_of_ble_eq_true rfl⟩ rfl rfl (c_MA_max E _ _ _) (fun v4 μ3 => ?_)
  refine J_iadd zd_AS_newLength_6 ?_
  refine J_nm (fun v5 => ?_)
  refine J_istore_n (lv' := [some _, some _, some _, some _]) zd_AS_newLength_7 (Nat.le_of_ble_eq_true rfl) rfl ?_
  refine J_iconst (v := 0) zd_AS_newLength_8 (by decide) ?_
  refine J_iload_n zd_AS_newLength_9 rfl ?_
  refine J_icmp_ge (tgt := 21) zd_AS_newLength_10 rfl ?_ ?_
  · refine J_wid (k := 0) (n := 0) (Nat.le_of_ble_eq_true rfl) (Nat.le_of_ble_eq_true rfl) ?_
    refine J_keep [true, true, false, false] rfl ?_
    exact j_AS_newLength_21 E _ _ _
  · refine J_iload_n zd_AS_newLength_13 rfl ?_
    refine J_ldc zd_AS_newLength_14 zw_282 ?_
    refine J_icmp_gt (tgt := 21) zd_AS_newLength_16 rfl ?_ ?_
    · refine J_wid (k := 0) (n := 0) (Nat.le_of_ble_eq_true rfl) (Nat.le_of_ble_eq_true rfl) ?_
      refine J_keep [true, true, false, false] rfl ?_
      exact j_AS_newLength_21 E _ _ _
    · refine J_iload_n zd_AS_newLength_19 rfl ?_
      exact J_iret zd_AS_newLength_20 rfl (Nat.le_of_ble_eq_true rfl) (Nat.le_of_ble_eq_true rfl)
def f_MA_min (a0 : Int32) (a1 : Int32) (μ : Mem) : Option (LV × Mem) := (if a1 < a0 then (some (.inl a1, μ)) else (some (.inl a0, μ)))
set_option maxRecDepth 20000 in
theorem c_MA_min (E : EV) (a0 : Int32) (a1 : Int32) (μ : Mem) : Ct E I_MA_min (rmk 1 0 0) [.inl a0, .inl a1] μ (f_MA_min a0 a1 μ) := by
  refine Ct.of (k := 0) (by decide +kernel) rfl ?_
  show J E I_MA_min (rmk 1 0 0) (QR E I_MA_min (rmk 1 0 0)) 0 0 μ 0 [some (.inl a0), some (.inl a1)] [] (f_MA_min a0 a1 μ)
  unfold f_MA_min
  refine J_iload_n zd_MA_min_0 rfl ?_
  refine J_iload_n zd_MA_min_1 rfl ?_
  refine J_icmp_gt (tgt := 9) zd_MA_min_2 rfl ?_ ?_
  · refine J_iload_n zd_MA_min_9 rfl ?_
    exact J_iret zd_MA_min_10 rfl (Nat.le_of_ble_eq_true rfl) (Nat.le_of_ble_eq_true rfl)
  · refine J_iload_n zd_MA_min_5 rfl ?_
    refine J_goto (tgt := 10) zd_MA_min_6 rfl ?_
    exact J_iret zd_MA_min_10 rfl (Nat.le_of_ble_eq_true rfl) (Nat.le_of_ble_eq_true rfl)
def f_AR_copyOf3 (a0 : Nat) (a1 : Int32) (a2 : Nat) (μ : Mem) : Option (LV × Mem) := (aq a2 3 (nR a1 μ (fun h1 μ2 => aL a0 μ2 (fun v3 => bI (f_MA_min v3 a1 μ2) (fun v5 μ4 => cpR a0 0 h1 0 v5 μ4 (fun μ6 => (some (.inr h1, μ6))))))) (none))
set_option maxRecDepth 20000 in
theorem c_AR_copyOf3 (E : EV) (a0 : Nat) (a1 : Int32) (a2 : Nat) (μ : Mem) : Ct E I_AR_copyOf3 (rmk 2 1 64) [.inr a0, .inl a1, .inr a2] μ (f_AR_copyOf3 a0 a1 a2 μ) := by
  refine Ct.of (k := 1) (by decide +kernel) rfl ?_
  show J E I_AR_copyOf3 (rmk 2 1 64) (QR E I_AR_copyOf3 (rmk 2 1 64)) 0 0 μ 0 [some (.inr a0), some (.inl a1), some (.inr a2), none] [] (f_AR_copyOf3 a0 a1 a2 μ)
  unfold f_AR_copyOf3
  refine J_aload_n zd_AR_copyOf3_0 rfl ?_
  refine J_ldcM zd_AR_copyOf3_1 zw_308 ?_
  refine J_acmp_ne (tgt := 13) zd_AR_copyOf3_3 rfl ?_ ?_
  · refine J_aload_n zd_AR_copyOf3_13 rfl ?_
    exact J_none
  · refine J_iload_n zd_AR_copyOf3_6 rfl ?_
    refine J_nR zd_AR_copyOf3_7 zw_310 (Nat.le_of_ble_eq_true rfl) (Nat.le_of_ble_eq_true rfl) (fun h1 μ2 => ?_)
    refine J_goto (tgt := 24) zd_AR_copyOf3_10 rfl ?_
    refine J_astore_n (lv' := [some _, some _, some _, some _]) zd_AR_copyOf3_24 (Nat.le_of_ble_eq_true rfl) rfl ?_
    refine J_aload_n zd_AR_copyOf3_25 rfl ?_
    refine J_iconst (v := 0) zd_AR_copyOf3_26 (by decide) ?_
    refine J_aload_n zd_AR_copyOf3_27 rfl ?_
    refine J_iconst (v := 0) zd_AR_copyOf3_28 (by decide) ?_
    refine J_aload_n zd_AR_copyOf3_29 rfl ?_
    refine J_aL zd_AR_copyOf3_30 (fun v3 => ?_)
    refine J_iload_n zd_AR_copyOf3_31 rfl ?_
    refine J_callSi (as := [.inl _, .inl _]) zd_AR_copyOf3_32 zm_MA_min ⟨Nat.le_of_ble_eq_true rfl, Nat.le_of_ble_eq_true rfl⟩ zw_311 zw_312 rfl (Nat.le_of_ble_eq_true rfl) ⟨Nat.le_of_ble_eq_true rfl, Nat.le_of_ble_eq_true rfl⟩ rfl rfl (c_MA_min E _ _ _) (fun v5 μ4 => ?_)
    refine J_cpR zd_AR_copyOf3_35 zw_314 zw_316 zw_315 zw_15 (Nat.le_of_ble_eq_true rfl) (Nat.le_of_ble_eq_true rfl) (Nat.le_of_ble_eq_true rfl) (fun μ6 => ?_)
    refine J_aload_n zd_AR_copyOf3_38 rfl ?_
    exact J_aret zd_AR_copyOf3_39 rfl (Or.inr ⟨_, rfl⟩) (Nat.le_of_ble_eq_true rfl) (Nat.le_of_ble_eq_true rfl)
def f_AR_copyOf2 (a0 : Nat) (a1 : Int32) (μ : Mem) : Option (LV × Mem) := gC a0 μ (bR (f_AR_copyOf3 a0 a1 3 μ) (fun r2 μ1 => (some (.inr r2, μ1))))
set_option maxRecDepth 20000 in
theorem c_AR_copyOf2 (E : EV) (a0 : Nat) (a1 : Int32) (μ : Mem) : Ct E I_AR_copyOf2 (rmk 3 1 64) [.inr a0, .inl a1] μ (f_AR_copyOf2 a0 a1 μ) := by
  refine Ct.of (k := 0) (by decide +kernel) rfl ?_
  show J E I_AR_copyOf2 (rmk 3 1 64) (QR E I_AR_copyOf2 (rmk 3 1 64)) 0 0 μ 0 [some (.inr a0), some (.inl a1)] [] (f_AR_copyOf2 a0 a1 μ)
  unfold f_AR_copyOf2
  refine J_aload_n zd_AR_copyOf2_0 rfl ?_
  refine J_iload_n zd_AR_copyOf2_1 rfl ?_
  refine J_aload_n zd_AR_copyOf2_2 rfl ?_
  refine J_gC zd_AR_copyOf2_3 zw_289 zw_1059 zw_1058 zw_290 zw_304 (Nat.le_of_ble_eq_true rfl) (Nat.le_of_ble_eq_true rfl) (Nat.le_of_ble_eq_true rfl) ?_
  refine J_callSr (as := [.inr _, .inl _, .inr _]) zd_AR_copyOf2_6 zm_AR_copyOf3 ⟨Nat.le_of_ble_eq_true rfl, Nat.le_of_ble_eq_true rfl⟩ zw_305 zw_306 rfl (Nat.le_of_ble_eq_true rfl) ⟨Nat.le_of_ble_eq_true rfl, Nat.le_of_ble_eq_true rfl⟩ rfl rfl (c_AR_copyOf3 E _ _ _ _) (fun r2 μ1 => ?_)
  exact J_aret zd_AR_copyOf2_9 rfl (Or.inr ⟨_, rfl⟩) (Nat.le_of_ble_eq_true rfl) (Nat.le_of_ble_eq_true rfl)
def b_AL_grow1_20  (a0 : Nat) (a1 : Int32) (a2 : Int32)  (μ : Mem) : Option (LV × Mem) := bI (f_AS_newLength a2 (a1 - a2) (a2 >>> (1 &&& 31)) μ) (fun v2 μ1 => gR 11 a0 1 μ1 (fun r3 => bR (f_AR_copyOf2 r3 v2 μ1) (fun r5 μ4 => pR 11 a0 1 r5 μ4 (fun μ6 => (some (.inr r5, μ6))))))
set_option maxRecDepth 20000 in
theorem j_AL_grow1_20 (E : EV) (a0 : Nat) (a1 : Int32) (a2 : Int32)  (μ : Mem)  : J E I_AL_grow1 (rmk 4 1 64) (QR E I_AL_grow1 (rmk 4 1 64)) 0 0 μ 20 [some (.inr a0), some (.inl a1), some (.inl a2), none] [] (b_AL_grow1_20 a0 a1 a2 μ) := by
  unfold b_AL_grow1_20
  refine J_iload_n zd_AL_grow1_20 rfl ?_
  refine J_iload_n zd_AL_grow1_21 rfl ?_
  refine J_iload_n zd_AL_grow1_22 rfl ?_
  refine J_isub zd_AL_grow1_23 ?_
  refine J_iload_n zd_AL_grow1_24 rfl ?_
  refine J_iconst (v := 1) zd_AL_grow1_25 (by decide) ?_
  refine J_ishr zd_AL_grow1_26 ?_
  refine J_callSi (as := [.inl _, .inl _, .inl _]) zd_AL_grow1_27 zm_AS_newLength ⟨Nat.le_of_ble_eq_true rfl, Nat.le_of_ble_eq_true rfl⟩ zw_276 zw_277 rfl (Nat.le_of_ble_eq_true rfl) ⟨Nat.le_of_ble_eq_true rfl, Nat.le_of_ble_eq_true rfl⟩ rfl rfl (c_AS_newLength E _ _ _ _) (fun v2 μ1 => ?_)
  refine J_istore_n (lv' := [some _, some _, some _, some _]) zd_AL_grow1_30 (Nat.le_of_ble_eq_true rfl) rfl ?_
  refine J_aload_n zd_AL_grow1_31 rfl ?_
  refine J_aload_n zd_AL_grow1_32 rfl ?_
  refine J_gR zd_AL_grow1_33 zf_AL_9 rfl (fun r3 => ?_)
  refine J_iload_n zd_AL_grow1_36 rfl ?_
  refine J_callSr (as := [.inr _, .inl _]) zd_AL_grow1_37 zm_AR_copyOf2 ⟨Nat.le_of_ble_eq_true rfl, Nat.le_of_ble_eq_true rfl⟩ zw_286 zw_287 rfl (Nat.le_of_ble_eq_true rfl) ⟨Nat.le_of_ble_eq_true rfl, Nat.le_of_ble_eq_true rfl⟩ rfl rfl (c_AR_copyOf2 E _ _ _) (fun r5 μ4 => ?_)
  refine J_dup_x1 zd_AL_grow1_40 ?_
  refine J_pR zd_AL_grow1_41 zf_AL_9 ⟨zt_AL, zn_AL, Or.inl rfl⟩ (Or.inr ⟨_, rfl⟩) rfl (fun μ6 => ?_)
  exact J_aret zd_AL_grow1_44 rfl (Or.inr ⟨_, rfl⟩) (Nat.le_of_ble_eq_true rfl) (Nat.le_of_ble_eq_true rfl)
def f_AL_grow1 (a0 : Nat) (a1 : Int32) (μ : Mem) : Option (LV × Mem) := gR 11 a0 1 μ (fun r7 => aL r7 μ (fun v8 => (if 0 < v8 then (b_AL_grow1_20 a0 a1 v8 μ) else gR 11 a0 1 μ (fun r9 => (aq r9 1 (bI (f_MA_max 10 a1 μ) (fun v11 μ10 => nR v11 μ10 (fun h12 μ13 => pR 11 a0 1 h12 μ13 (fun μ14 => (some (.inr h12, μ14)))))) ((b_AL_grow1_20 a0 a1 v8 μ)))))))
set_option maxRecDepth 20000 in
theorem c_AL_grow1 (E : EV) (a0 : Nat) (a1 : Int32) (μ : Mem) : Ct E I_AL_grow1 (rmk 4 1 64) [.inr a0, .inl a1] μ (f_AL_grow1 a0 a1 μ) := by
  refine Ct.of (k := 2) (by decide +kernel) rfl ?_
  show J E I_AL_grow1 (rmk 4 1 64) (QR E I_AL_grow1 (rmk 4 1 64)) 0 0 μ 0 [some (.inr a0), some (.inl a1), none, none] [] (f_AL_grow1 a0 a1 μ)
  unfold f_AL_grow1
  refine J_aload_n zd_AL_grow1_0 rfl ?_
  refine J_gR zd_AL_grow1_1 zf_AL_9 rfl (fun r7 => ?_)
  refine J_aL zd_AL_grow1_4 (fun v8 => ?_)
  refine J_istore_n (lv' := [some _, some _, some _, none]) zd_AL_grow1_5 (Nat.le_of_ble_eq_true rfl) rfl ?_
  refine J_iload_n zd_AL_grow1_6 rfl ?_
  refine J_if_gt (tgt := 20) zd_AL_grow1_7 rfl ?_ ?_
  · refine J_wid (k := 0) (n := 0) (Nat.le_of_ble_eq_true rfl) (Nat.le_of_ble_eq_true rfl) ?_
    refine J_keep [true, true, true, false] rfl ?_
    exact j_AL_grow1_20 E _ _ _ _
  · refine J_aload_n zd_AL_grow1_10 rfl ?_
    refine J_gR zd_AL_grow1_11 zf_AL_9 rfl (fun r9 => ?_)
    refine J_gets zd_AL_grow1_14 zw_41 ?_
    refine J_acmp_eq (tgt := 45) zd_AL_grow1_17 rfl ?_ ?_
    · refine J_aload_n zd_AL_grow1_45 rfl ?_
      refine J_bipush (v := 10) zd_AL_grow1_46 (by decide) ?_
      refine J_iload_n zd_AL_grow1_48 rfl ?_
      refine J_callSi (as := [.inl _, .inl _]) zd_AL_grow1_49 zm_MA_max ⟨Nat.le_of_ble_eq_true rfl, Nat.le_of_ble_eq_true rfl⟩ zw_317 zw_280 rfl (Nat.le_of_ble_eq_true rfl) ⟨Nat.le_of_ble_eq_true rfl, Nat.le_of_ble_eq_true rfl⟩ rfl rfl (c_MA_max E _ _ _) (fun v11 μ10 => ?_)
      refine J_nR zd_AL_grow1_52 zw_318 (Nat.le_of_ble_eq_true rfl) (Nat.le_of_ble_eq_true rfl) (fun h12 μ13 => ?_)
      refine J_dup_x1 zd_AL_grow1_55 ?_
      refine J_pR zd_AL_grow1_56 zf_AL_9 ⟨zt_AL, zn_AL, Or.inl rfl⟩ (Or.inr ⟨_, rfl⟩) rfl (fun μ14 => ?_)
      exact J_aret zd_AL_grow1_59 rfl (Or.inr ⟨_, rfl⟩) (Nat.le_of_ble_eq_true rfl) (Nat.le_of_ble_eq_true rfl)
    · refine J_wid (k := 0) (n := 0) (Nat.le_of_ble_eq_true rfl) (Nat.le_of_ble_eq_true rfl) ?_
      refine J_keep [true, true, true, false] rfl ?_
      exact j_AL_grow1_20 E _ _ _ _
def f_AL_grow0 (a0 : Nat) (μ : Mem) : Option (LV × Mem) := gI 11 a0 2 μ (fun v1 => cV 11 a0 μ (bR (f_AL_grow1 a0 (v1 + 1) μ) (fun r3 μ2 => (some (.inr r3, μ2)))))
set_option maxRecDepth 20000 in
theorem c_AL_grow0 (E : EV) (a0 : Nat) (μ : Mem) : Ct E I_AL_grow0 (rmk 5 1 64) [.inr a0] μ (f_AL_grow0 a0 μ) := by
  refine Ct.of (k := 0) (by decide +kernel) rfl ?_
  show J E I_AL_grow0 (rmk 5 1 64) (QR E I_AL_grow0 (rmk 5 1 64)) 0 0 μ 0 [some (.inr a0)] [] (f_AL_grow0 a0 μ)
  unfold f_AL_grow0
  refine J_aload_n zd_AL_grow0_0 rfl ?_
  refine J_aload_n zd_AL_grow0_1 rfl ?_
  refine J_gI zd_AL_grow0_2 zf_AL_48 rfl (fun v1 => ?_)
  refine J_iconst (v := 1) zd_AL_grow0_5 (by decide) ?_
  refine J_iadd zd_AL_grow0_6 ?_
  refine J_callVr (ci := 11) (as := [.inl _]) zd_AL_grow0_7 zm_AL_grow1 ⟨Nat.le_of_ble_eq_true rfl, Nat.le_of_ble_eq_true rfl⟩ zw_272 zw_274 zs_3 (by decide) rfl rfl (Nat.le_of_ble_eq_true rfl) ⟨Nat.le_of_ble_eq_true rfl, Nat.le_of_ble_eq_true rfl⟩ rfl rfl (c_AL_grow1 E _ _ _) (fun r3 μ2 => ?_)
  exact J_aret zd_AL_grow0_10 rfl (Or.inr ⟨_, rfl⟩) (Nat.le_of_ble_eq_true rfl) (Nat.le_of_ble_eq_true rfl)
def b_AL_add3_11  (a0 : Nat) (a1 : Nat) (a2 : Nat) (a3 : Int32)  (μ : Mem) : Option (LV × Mem) := rS a2 a3 a1 μ (fun μ1 => pI 11 a0 2 (a3 + 1) μ1 (fun μ2 => (some (.inl 0, μ2))))
set_option maxRecDepth 20000 in
theorem j_AL_add3_11 (E : EV) (a0 : Nat) (a1 : Nat) (a2 : Nat) (a3 : Int32)  (μ : Mem)  : J E I_AL_add3 (rmk 6 1 64) (QR E I_AL_add3 (rmk 6 1 64)) 1 64 μ 11 [some (.inr a0), some (.inr a1), some (.inr a2), some (.inl a3)] [] (b_AL_add3_11 a0 a1 a2 a3 μ) := by
  unfold b_AL_add3_11
  refine J_aload_n zd_AL_add3_11 rfl ?_
  refine J_iload_n zd_AL_add3_12 rfl ?_
  refine J_aload_n zd_AL_add3_13 rfl ?_
  refine J_rS zd_AL_add3_14 (fun μ1 => ?_)
  refine J_aload_n zd_AL_add3_15 rfl ?_
  refine J_iload_n zd_AL_add3_16 rfl ?_
  refine J_iconst (v := 1) zd_AL_add3_17 (by decide) ?_
  refine J_iadd zd_AL_add3_18 ?_
  refine J_pI zd_AL_add3_19 zf_AL_48 ⟨zt_AL, zn_AL, Or.inl rfl⟩ rfl rfl (fun μ2 => ?_)
  exact J_vret zd_AL_add3_22 rfl (Nat.le_of_ble_eq_true rfl) (Nat.le_of_ble_eq_true rfl)
def f_AL_add3 (a0 : Nat) (a1 : Nat) (a2 : Nat) (a3 : Int32) (μ : Mem) : Option (LV × Mem) := aL a2 μ (fun v3 => (if a3 = v3 then cV 11 a0 μ (bR (f_AL_grow0 a0 μ) (fun r5 μ4 => (b_AL_add3_11 a0 a1 r5 a3 μ4))) else (b_AL_add3_11 a0 a1 a2 a3 μ)))
set_option maxRecDepth 20000 in
theorem c_AL_add3 (E : EV) (a0 : Nat) (a1 : Nat) (a2 : Nat) (a3 : Int32) (μ : Mem) : Ct E I_AL_add3 (rmk 6 1 64) [.inr a0, .inr a1, .inr a2, .inl a3] μ (f_AL_add3 a0 a1 a2 a3 μ) := by
  refine Ct.of (k := 0) (by decide +kernel) rfl ?_
  show J E I_AL_add3 (rmk 6 1 64) (QR E I_AL_add3 (rmk 6 1 64)) 0 0 μ 0 [some (.inr a0), some (.inr a1), some (.inr a2), some (.inl a3)] [] (f_AL_add3 a0 a1 a2 a3 μ)
  unfold f_AL_add3
  refine J_iload_n zd_AL_add3_0 rfl ?_
  refine J_aload_n zd_AL_add3_1 rfl ?_
  refine J_aL zd_AL_add3_2 (fun v3 => ?_)
  refine J_icmp_ne (tgt := 11) zd_AL_add3_3 rfl ?_ ?_
  · refine J_wid (k := 1) (n := 64) (Nat.le_of_ble_eq_true rfl) (Nat.le_of_ble_eq_true rfl) ?_
    refine J_keep [true, true, true, true] rfl ?_
    exact j_AL_add3_11 E _ _ _ _ _
  · refine J_aload_n zd_AL_add3_6 rfl ?_
    refine J_callVr (ci := 11) (as := []) zd_AL_add3_7 zm_AL_grow0 ⟨Nat.le_of_ble_eq_true rfl, Nat.le_of_ble_eq_true rfl⟩ zw_268 zw_270 zs_2 (by decide) rfl rfl (Nat.le_of_ble_eq_true rfl) ⟨Nat.le_of_ble_eq_true rfl, Nat.le_of_ble_eq_true rfl⟩ rfl rfl (c_AL_grow0 E _ _) (fun r5 μ4 => ?_)
    refine J_astore_n (lv' := [some _, some _, some _, some _]) zd_AL_add3_10 (Nat.le_of_ble_eq_true rfl) rfl ?_
    refine J_wid (k := 1) (n := 64) (Nat.le_of_ble_eq_true rfl) (Nat.le_of_ble_eq_true rfl) ?_
    refine J_keep [true, true, true, true] rfl ?_
    exact j_AL_add3_11 E _ _ _ _ _
def f_AL_add1 (a0 : Nat) (a1 : Nat) (μ : Mem) : Option (LV × Mem) := gI 11 a0 0 μ (fun v1 => pI 11 a0 0 (v1 + 1) μ (fun μ2 => gR 11 a0 1 μ2 (fun r3 => gI 11 a0 2 μ2 (fun v4 => cV 11 a0 μ2 (bV (f_AL_add3 a0 a1 r3 v4 μ2) (fun μ5 => (some (.inl 1, μ5))))))))
set_option maxRecDepth 20000 in
theorem c_AL_add1 (E : EV) (a0 : Nat) (a1 : Nat) (μ : Mem) : Ct E I_AL_add1 (rmk 7 1 64) [.inr a0, .inr a1] μ (f_AL_add1 a0 a1 μ) := by
  refine Ct.of (k := 0) (by decide +kernel) rfl ?_
  show J E I_AL_add1 (rmk 7 1 64) (QR E I_AL_add1 (rmk 7 1 64)) 0 0 μ 0 [some (.inr a0), some (.inr a1)] [] (f_AL_add1 a0 a1 μ)
  unfold f_AL_add1
  refine J_aload_n zd_AL_add1_0 rfl ?_
  refine J_dup zd_AL_add1_1 ?_
  refine J_gI zd_AL_add1_2 zf_AL_63 rfl (fun v1 => ?_)
  refine J_iconst (v := 1) zd_AL_add1_5 (by decide) ?_
  refine J_iadd zd_AL_add1_6 ?_
  refine J_pI zd_AL_add1_7 zf_AL_63 ⟨zt_AL, zn_AL, Or.inl rfl⟩ rfl rfl (fun μ2 => ?_)
  refine J_aload_n zd_AL_add1_10 rfl ?_
  refine J_aload_n zd_AL_add1_11 rfl ?_
  refine J_aload_n zd_AL_add1_12 rfl ?_
  refine J_gR zd_AL_add1_13 zf_AL_9 rfl (fun r3 => ?_)
  refine J_aload_n zd_AL_add1_16 rfl ?_
  refine J_gI zd_AL_add1_17 zf_AL_48 rfl (fun v4 => ?_)
  refine J_callVv (ci := 11) (as := [.inr _, .inr _, .inl _]) zd_AL_add1_20 zm_AL_add3 ⟨Nat.le_of_ble_eq_true rfl, Nat.le_of_ble_eq_true rfl⟩ zw_264 zw_266 zs_1 (by decide) rfl rfl (Nat.le_of_ble_eq_true rfl) ⟨Nat.le_of_ble_eq_true rfl, Nat.le_of_ble_eq_true rfl⟩ rfl rfl (c_AL_add3 E _ _ _ _ _) (fun μ5 => ?_)
  refine J_iconst (v := 1) zd_AL_add1_23 (by decide) ?_
  exact J_zret zd_AL_add1_24 rfl rfl (Nat.le_of_ble_eq_true rfl) (Nat.le_of_ble_eq_true rfl)
def f_PC_checkIndex (a0 : Int32) (a1 : Int32) (a2 : Nat) (μ : Mem) : Option (LV × Mem) := (if a0 < 0 then none else (if a0 < a1 then (some (.inl a0, μ)) else none))
set_option maxRecDepth 20000 in
theorem c_PC_checkIndex (E : EV) (a0 : Int32) (a1 : Int32) (a2 : Nat) (μ : Mem) : Ct E I_PC_checkIndex (rmk 1 0 0) [.inl a0, .inl a1, .inr a2] μ (f_PC_checkIndex a0 a1 a2 μ) := by
  refine Ct.of (k := 0) (by decide +kernel) rfl ?_
  show J E I_PC_checkIndex (rmk 1 0 0) (QR E I_PC_checkIndex (rmk 1 0 0)) 0 0 μ 0 [some (.inl a0), some (.inl a1), some (.inr a2)] [] (f_PC_checkIndex a0 a1 a2 μ)
  unfold f_PC_checkIndex
  refine J_iload_n zd_PC_checkIndex_0 rfl ?_
  refine J_if_lt (tgt := 9) zd_PC_checkIndex_1 rfl ?_ ?_
  · refine J_aload_n zd_PC_checkIndex_9 rfl ?_
    refine J_iload_n zd_PC_checkIndex_10 rfl ?_
    refine J_iload_n zd_PC_checkIndex_11 rfl ?_
    exact J_none
  · refine J_iload_n zd_PC_checkIndex_4 rfl ?_
    refine J_iload_n zd_PC_checkIndex_5 rfl ?_
    refine J_icmp_lt (tgt := 16) zd_PC_checkIndex_6 rfl ?_ ?_
    · refine J_iload_n zd_PC_checkIndex_16 rfl ?_
      exact J_iret zd_PC_checkIndex_17 rfl (Nat.le_of_ble_eq_true rfl) (Nat.le_of_ble_eq_true rfl)
    · refine J_aload_n zd_PC_checkIndex_9 rfl ?_
      refine J_iload_n zd_PC_checkIndex_10 rfl ?_
      refine J_iload_n zd_PC_checkIndex_11 rfl ?_
      exact J_none
def f_OB_checkIndex (a0 : Int32) (a1 : Int32) (μ : Mem) : Option (LV × Mem) := bI (f_PC_checkIndex a0 a1 0 μ) (fun v2 μ1 => (some (.inl v2, μ1)))
set_option maxRecDepth 20000 in
theorem c_OB_checkIndex (E : EV) (a0 : Int32) (a1 : Int32) (μ : Mem) : Ct E I_OB_checkIndex (rmk 2 0 0) [.inl a0, .inl a1] μ (f_OB_checkIndex a0 a1 μ) := by
  refine Ct.of (k := 0) (by decide +kernel) rfl ?_
  show J E I_OB_checkIndex (rmk 2 0 0) (QR E I_OB_checkIndex (rmk 2 0 0)) 0 0 μ 0 [some (.inl a0), some (.inl a1)] [] (f_OB_checkIndex a0 a1 μ)
  unfold f_OB_checkIndex
  refine J_iload_n zd_OB_checkIndex_0 rfl ?_
  refine J_iload_n zd_OB_checkIndex_1 rfl ?_
  refine J_null zd_OB_checkIndex_2 ?_
  refine J_callSi (as := [.inl _, .inl _, .inr _]) zd_OB_checkIndex_3 zm_PC_checkIndex ⟨Nat.le_of_ble_eq_true rfl, Nat.le_of_ble_eq_true rfl⟩ zw_334 zw_335 rfl (Nat.le_of_ble_eq_true rfl) ⟨Nat.le_of_ble_eq_true rfl, Nat.le_of_ble_eq_true rfl⟩ rfl rfl (c_PC_checkIndex E _ _ _ _) (fun v2 μ1 => ?_)
  exact J_iret zd_OB_checkIndex_6 rfl (Nat.le_of_ble_eq_true rfl) (Nat.le_of_ble_eq_true rfl)
def f_AL_elementData (a0 : Nat) (a1 : Int32) (μ : Mem) : Option (LV × Mem) := gR 11 a0 1 μ (fun r1 => rI r1 a1 μ (fun r2 => (some (.inr r2, μ))))
set_option maxRecDepth 20000 in
theorem c_AL_elementData (E : EV) (a0 : Nat) (a1 : Int32) (μ : Mem) : Ct E I_AL_elementData (rmk 1 0 0) [.inr a0, .inl a1] μ (f_AL_elementData a0 a1 μ) := by
  refine Ct.of (k := 0) (by decide +kernel) rfl ?_
  show J E I_AL_elementData (rmk 1 0 0) (QR E I_AL_elementData (rmk 1 0 0)) 0 0 μ 0 [some (.inr a0), some (.inl a1)] [] (f_AL_elementData a0 a1 μ)
  unfold f_AL_elementData
  refine J_aload_n zd_AL_elementData_0 rfl ?_
  refine J_gR zd_AL_elementData_1 zf_AL_9 rfl (fun r1 => ?_)
  refine J_iload_n zd_AL_elementData_4 rfl ?_
  refine J_rI zd_AL_elementData_5 (fun r2 => ?_)
  exact J_aret zd_AL_elementData_6 rfl (Or.inl ⟨_, rfl⟩) (Nat.le_of_ble_eq_true rfl) (Nat.le_of_ble_eq_true rfl)
def f_AL_get (a0 : Nat) (a1 : Int32) (μ : Mem) : Option (LV × Mem) := gI 11 a0 2 μ (fun v1 => bI (f_OB_checkIndex a1 v1 μ) (fun v3 μ2 => cV 11 a0 μ2 (bR (f_AL_elementData a0 a1 μ2) (fun r5 μ4 => (some (.inr r5, μ4))))))
set_option maxRecDepth 20000 in
theorem c_AL_get (E : EV) (a0 : Nat) (a1 : Int32) (μ : Mem) : Ct E I_AL_get (rmk 3 0 0) [.inr a0, .inl a1] μ (f_AL_get a0 a1 μ) := by
  refine Ct.of (k := 0) (by decide +kernel) rfl ?_
  show J E I_AL_get (rmk 3 0 0) (QR E I_AL_get (rmk 3 0 0)) 0 0 μ 0 [some (.inr a0), some (.inl a1)] [] (f_AL_get a0 a1 μ)
  unfold f_AL_get
  refine J_iload_n zd_AL_get_0 rfl ?_
  refine J_aload_n zd_AL_get_1 rfl ?_
  refine J_gI zd_AL_get_2 zf_AL_48 rfl (fun v1 => ?_)
  refine J_callSi (as := [.inl _, .inl _]) zd_AL_get_5 zm_OB_checkIndex ⟨Nat.le_of_ble_eq_true rfl, Nat.le_of_ble_eq_true rfl⟩ zw_331 zw_332 rfl (Nat.le_of_ble_eq_true rfl) ⟨Nat.le_of_ble_eq_true rfl, Nat.le_of_ble_eq_true rfl⟩ rfl rfl (c_OB_checkIndex E _ _ _) (fun v3 μ2 => ?_)
  refine J_pop zd_AL_get_8 ?_
  refine J_aload_n zd_AL_get_9 rfl ?_
  refine J_iload_n zd_AL_get_10 rfl ?_
  refine J_callVr (ci := 11) (as := [.inl _]) zd_AL_get_11 zm_AL_elementData ⟨Nat.le_of_ble_eq_true rfl, Nat.le_of_ble_eq_true rfl⟩ zw_337 zw_338 zw_339 (by decide) rfl rfl (Nat.le_of_ble_eq_true rfl) ⟨Nat.le_of_ble_eq_true rfl, Nat.le_of_ble_eq_true rfl⟩ rfl rfl (c_AL_elementData E _ _ _) (fun r5 μ4 => ?_)
  exact J_aret zd_AL_get_14 rfl (Or.inl ⟨_, rfl⟩) (Nat.le_of_ble_eq_true rfl) (Nat.le_of_ble_eq_true rfl)
def f_MA_floorMod (a0 : Int32) (a1 : Int32) (μ : Mem) : Option (LV × Mem) := irv a0 a1 (fun v1 => (if 0 ≤ (a0 ^^^ a1) then (some (.inl v1, μ)) else (if v1 = 0 then (some (.inl v1, μ)) else (some (.inl (v1 + a1), μ)))))
set_option maxRecDepth 20000 in
theorem c_MA_floorMod (E : EV) (a0 : Int32) (a1 : Int32) (μ : Mem) : Ct E I_MA_floorMod (rmk 1 0 0) [.inl a0, .inl a1] μ (f_MA_floorMod a0 a1 μ) := by
  refine Ct.of (k := 1) (by decide +kernel) rfl ?_
  show J E I_MA_floorMod (rmk 1 0 0) (QR E I_MA_floorMod (rmk 1 0 0)) 0 0 μ 0 [some (.inl a0), some (.inl a1), none] [] (f_MA_floorMod a0 a1 μ)
  unfold f_MA_floorMod
  refine J_iload_n zd_MA_floorMod_0 rfl ?_
  refine J_iload_n zd_MA_floorMod_1 rfl ?_
  refine J_irem zd_MA_floorMod_2 (fun v1 => ?_)
  refine J_istore_n (lv' := [some _, some _, some _]) zd_MA_floorMod_3 (Nat.le_of_ble_eq_true rfl) rfl ?_
  refine J_iload_n zd_MA_floorMod_4 rfl ?_
  refine J_iload_n zd_MA_floorMod_5 rfl ?_
  refine J_ixor zd_MA_floorMod_6 ?_
  refine J_if_ge (tgt := 18) zd_MA_floorMod_7 rfl ?_ ?_
  · refine J_iload_n zd_MA_floorMod_18 rfl ?_
    exact J_iret zd_MA_floorMod_19 rfl (Nat.le_of_ble_eq_true rfl) (Nat.le_of_ble_eq_true rfl)
  · refine J_iload_n zd_MA_floorMod_10 rfl ?_
    refine J_if_eq (tgt := 18) zd_MA_floorMod_11 rfl ?_ ?_
    · refine J_iload_n zd_MA_floorMod_18 rfl ?_
      exact J_iret zd_MA_floorMod_19 rfl (Nat.le_of_ble_eq_true rfl) (Nat.le_of_ble_eq_true rfl)
    · refine J_iload_n zd_MA_floorMod_14 rfl ?_
      refine J_iload_n zd_MA_floorMod_15 rfl ?_
      refine J_iadd zd_MA_floorMod_16 ?_
      exact J_iret zd_MA_floorMod_17 rfl (Nat.le_of_ble_eq_true rfl) (Nat.le_of_ble_eq_true rfl)
def f_MA_abs (a0 : Int32) (μ : Mem) : Option (LV × Mem) := (if 0 ≤ a0 then (some (.inl a0, μ)) else (some (.inl (-a0), μ)))
set_option maxRecDepth 20000 in
theorem c_MA_abs (E : EV) (a0 : Int32) (μ : Mem) : Ct E I_MA_abs (rmk 1 0 0) [.inl a0] μ (f_MA_abs a0 μ) := by
  refine Ct.of (k := 0) (by decide +kernel) rfl ?_
  show J E I_MA_abs (rmk 1 0 0) (QR E I_MA_abs (rmk 1 0 0)) 0 0 μ 0 [some (.inl a0)] [] (f_MA_abs a0 μ)
  unfold f_MA_abs
  refine J_iload_n zd_MA_abs_0 rfl ?_
  refine J_if_ge (tgt := 9) zd_MA_abs_1 rfl ?_ ?_
  · refine J_iload_n zd_MA_abs_9 rfl ?_
    exact J_iret zd_MA_abs_10 rfl (Nat.le_of_ble_eq_true rfl) (Nat.le_of_ble_eq_true rfl)
  · refine J_iload_n zd_MA_abs_4 rfl ?_
    refine J_ineg zd_MA_abs_5 ?_
    refine J_goto (tgt := 10) zd_MA_abs_6 rfl ?_
    exact J_iret zd_MA_abs_10 rfl (Nat.le_of_ble_eq_true rfl) (Nat.le_of_ble_eq_true rfl)
