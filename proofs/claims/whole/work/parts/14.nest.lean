/-! functions and walks, by program: nest -/
def f_T_init (a0 : Nat) (μ : Mem) : Option (LV × Mem) := cN a0 (nO μ (0, 25) (fun h1 μ2 => pR 8 a0 0 h1 μ2 (fun μ3 => pI 8 a0 1 0 μ3 (fun μ4 => gR 8 a0 0 μ4 (fun r5 => bV (f_AR_fill r5 (-1) μ4) (fun μ6 => (some (.inl 0, μ6))))))))
set_option maxRecDepth 20000 in
theorem c_T_init (E : EV) (a0 : Nat) (μ : Mem) : Ct E I_T_init (rmk 2 1 25) [.inr a0] μ (f_T_init a0 μ) := by
  refine Ct.of (k := 0) (by decide +kernel) rfl ?_
  show J E I_T_init (rmk 2 1 25) (QR E I_T_init (rmk 2 1 25)) 0 0 μ 0 [some (.inr a0)] [] (f_T_init a0 μ)
  unfold f_T_init
  refine J_aload_n zd_T_init_0 rfl ?_
  refine J_obj zd_T_init_1 zw_61 zw_27 zw_28 (Nat.le_of_ble_eq_true rfl) (Nat.le_of_ble_eq_true rfl) (Nat.le_of_ble_eq_true rfl) ?_
  refine J_aload_n zd_T_init_4 rfl ?_
  refine J_bipush (v := 25) zd_T_init_5 (by decide) ?_
  refine J_newa zd_T_init_7 zw_55 (by decide) (N := 25) (by decide) (by decide) (Nat.le_of_ble_eq_true rfl) (Nat.le_of_ble_eq_true rfl) (fun h1 μ2 => ?_)
  refine J_pR zd_T_init_9 zf_T_9 ⟨zt_T, zn_T, Or.inr ⟨rfl, rfl, rfl⟩⟩ (Or.inr ⟨_, rfl⟩) rfl (fun μ3 => ?_)
  refine J_aload_n zd_T_init_12 rfl ?_
  refine J_iconst (v := 0) zd_T_init_13 (by decide) ?_
  refine J_pI zd_T_init_14 zf_T_13 ⟨zt_T, zn_T, Or.inl rfl⟩ rfl rfl (fun μ4 => ?_)
  refine J_aload_n zd_T_init_17 rfl ?_
  refine J_gR zd_T_init_18 zf_T_9 rfl (fun r5 => ?_)
  refine J_iconst (v := (-1)) zd_T_init_21 (by decide) ?_
  refine J_callSv (as := [.inr _, .inl _]) zd_T_init_22 zm_AR_fill ⟨Nat.le_of_ble_eq_true rfl, Nat.le_of_ble_eq_true rfl⟩ zw_62 zw_63 rfl (Nat.le_of_ble_eq_true rfl) ⟨Nat.le_of_ble_eq_true rfl, Nat.le_of_ble_eq_true rfl⟩ rfl rfl (c_AR_fill E _ _ _) (fun μ6 => ?_)
  exact J_vret zd_T_init_25 rfl (Nat.le_of_ble_eq_true rfl) (Nat.le_of_ble_eq_true rfl)
def f_R_init (a0 : Nat) (μ : Mem) : Option (LV × Mem) := cN a0 (nO μ (0, 1323) (fun h1 μ2 => pR 2 a0 0 h1 μ2 (fun μ3 => pI 2 a0 1 0 μ3 (fun μ4 => (some (.inl 0, μ4))))))
set_option maxRecDepth 20000 in
theorem c_R_init (E : EV) (a0 : Nat) (μ : Mem) : Ct E I_R_init (rmk 1 1 1323) [.inr a0] μ (f_R_init a0 μ) := by
  refine Ct.of (k := 0) (by decide +kernel) rfl ?_
  show J E I_R_init (rmk 1 1 1323) (QR E I_R_init (rmk 1 1 1323)) 0 0 μ 0 [some (.inr a0)] [] (f_R_init a0 μ)
  unfold f_R_init
  refine J_aload_n zd_R_init_0 rfl ?_
  refine J_obj zd_R_init_1 zw_77 zw_27 zw_28 (Nat.le_of_ble_eq_true rfl) (Nat.le_of_ble_eq_true rfl) (Nat.le_of_ble_eq_true rfl) ?_
  refine J_aload_n zd_R_init_4 rfl ?_
  refine J_sipush (v := 1323) zd_R_init_5 (by decide) ?_
  refine J_newa zd_R_init_8 zw_55 (by decide) (N := 1323) (by decide) (by decide) (Nat.le_of_ble_eq_true rfl) (Nat.le_of_ble_eq_true rfl) (fun h1 μ2 => ?_)
  refine J_pR zd_R_init_10 zf_R_11 ⟨zt_R, zn_R, Or.inr ⟨rfl, rfl, rfl⟩⟩ (Or.inr ⟨_, rfl⟩) rfl (fun μ3 => ?_)
  refine J_aload_n zd_R_init_13 rfl ?_
  refine J_iconst (v := 0) zd_R_init_14 (by decide) ?_
  refine J_pI zd_R_init_15 zf_R_15 ⟨zt_R, zn_R, Or.inl rfl⟩ rfl rfl (fun μ4 => ?_)
  exact J_vret zd_R_init_18 rfl (Nat.le_of_ble_eq_true rfl) (Nat.le_of_ble_eq_true rfl)
def f_P_init (a0 : Nat) (μ : Mem) : Option (LV × Mem) := cN a0 (pI 5 a0 0 (-9) μ (fun μ1 => pI 5 a0 1 (-9) μ1 (fun μ2 => pI 5 a0 2 (-9) μ2 (fun μ3 => pI 5 a0 3 0 μ3 (fun μ4 => (some (.inl 0, μ4)))))))
set_option maxRecDepth 20000 in
theorem c_P_init (E : EV) (a0 : Nat) (μ : Mem) : Ct E I_P_init (rmk 1 0 0) [.inr a0] μ (f_P_init a0 μ) := by
  refine Ct.of (k := 0) (by decide +kernel) rfl ?_
  show J E I_P_init (rmk 1 0 0) (QR E I_P_init (rmk 1 0 0)) 0 0 μ 0 [some (.inr a0)] [] (f_P_init a0 μ)
  unfold f_P_init
  refine J_aload_n zd_P_init_0 rfl ?_
  refine J_obj zd_P_init_1 zw_90 zw_27 zw_28 (Nat.le_of_ble_eq_true rfl) (Nat.le_of_ble_eq_true rfl) (Nat.le_of_ble_eq_true rfl) ?_
  refine J_aload_n zd_P_init_4 rfl ?_
  refine J_bipush (v := (-9)) zd_P_init_5 (by decide) ?_
  refine J_pI zd_P_init_7 zf_P_9 ⟨zt_P, zn_P, Or.inl rfl⟩ rfl rfl (fun μ1 => ?_)
  refine J_aload_n zd_P_init_10 rfl ?_
  refine J_bipush (v := (-9)) zd_P_init_11 (by decide) ?_
  refine J_pI zd_P_init_13 zf_P_15 ⟨zt_P, zn_P, Or.inl rfl⟩ rfl rfl (fun μ2 => ?_)
  refine J_aload_n zd_P_init_16 rfl ?_
  refine J_bipush (v := (-9)) zd_P_init_17 (by decide) ?_
  refine J_pI zd_P_init_19 zf_P_18 ⟨zt_P, zn_P, Or.inl rfl⟩ rfl rfl (fun μ3 => ?_)
  refine J_aload_n zd_P_init_22 rfl ?_
  refine J_iconst (v := 0) zd_P_init_23 (by decide) ?_
  refine J_pI zd_P_init_24 zf_P_21 ⟨zt_P, zn_P, Or.inl rfl⟩ rfl rfl (fun μ4 => ?_)
  exact J_vret zd_P_init_27 rfl (Nat.le_of_ble_eq_true rfl) (Nat.le_of_ble_eq_true rfl)
def f_F_init (a0 : Nat) (μ : Mem) : Option (LV × Mem) := cN a0 (nO μ (0, 6) (fun h1 μ2 => pR 3 a0 0 h1 μ2 (fun μ3 => pI 3 a0 1 0 μ3 (fun μ4 => pI 3 a0 2 0 μ4 (fun μ5 => nO μ5 (0, 6) (fun h6 μ7 => pR 3 a0 3 h6 μ7 (fun μ8 => nO μ8 (0, 6) (fun h9 μ10 => pR 3 a0 4 h9 μ10 (fun μ11 => nO μ11 (1, 6) (fun h12 μ13 => pR 3 a0 5 h12 μ13 (fun μ14 => nO μ14 (0, 6) (fun h15 μ16 => pR 3 a0 6 h15 μ16 (fun μ17 => (some (.inl 0, μ17)))))))))))))))
set_option maxRecDepth 20000 in
theorem c_F_init (E : EV) (a0 : Nat) (μ : Mem) : Ct E I_F_init (rmk 1 5 30) [.inr a0] μ (f_F_init a0 μ) := by
  refine Ct.of (k := 0) (by decide +kernel) rfl ?_
  show J E I_F_init (rmk 1 5 30) (QR E I_F_init (rmk 1 5 30)) 0 0 μ 0 [some (.inr a0)] [] (f_F_init a0 μ)
  unfold f_F_init
  refine J_aload_n zd_F_init_0 rfl ?_
  refine J_obj zd_F_init_1 zw_112 zw_27 zw_28 (Nat.le_of_ble_eq_true rfl) (Nat.le_of_ble_eq_true rfl) (Nat.le_of_ble_eq_true rfl) ?_
  refine J_aload_n zd_F_init_4 rfl ?_
  refine J_bipush (v := 6) zd_F_init_5 (by decide) ?_
  refine J_newa zd_F_init_7 zw_55 (by decide) (N := 6) (by decide) (by decide) (Nat.le_of_ble_eq_true rfl) (Nat.le_of_ble_eq_true rfl) (fun h1 μ2 => ?_)
  refine J_pR zd_F_init_9 zf_F_9 ⟨zt_F, zn_F, Or.inr ⟨rfl, rfl, rfl⟩⟩ (Or.inr ⟨_, rfl⟩) rfl (fun μ3 => ?_)
  refine J_aload_n zd_F_init_12 rfl ?_
  refine J_iconst (v := 0) zd_F_init_13 (by decide) ?_
  refine J_pI zd_F_init_14 zf_F_15 ⟨zt_F, zn_F, Or.inl rfl⟩ rfl rfl (fun μ4 => ?_)
  refine J_aload_n zd_F_init_17 rfl ?_
  refine J_iconst (v := 0) zd_F_init_18 (by decide) ?_
  refine J_pI zd_F_init_19 zf_F_19 ⟨zt_F, zn_F, Or.inl rfl⟩ rfl rfl (fun μ5 => ?_)
  refine J_aload_n zd_F_init_22 rfl ?_
  refine J_bipush (v := 6) zd_F_init_23 (by decide) ?_
  refine J_newa zd_F_init_25 zw_55 (by decide) (N := 6) (by decide) (by decide) (Nat.le_of_ble_eq_true rfl) (Nat.le_of_ble_eq_true rfl) (fun h6 μ7 => ?_)
  refine J_pR zd_F_init_27 zf_F_22 ⟨zt_F, zn_F, Or.inr ⟨rfl, rfl, rfl⟩⟩ (Or.inr ⟨_, rfl⟩) rfl (fun μ8 => ?_)
  refine J_aload_n zd_F_init_30 rfl ?_
  refine J_bipush (v := 6) zd_F_init_31 (by decide) ?_
  refine J_newa zd_F_init_33 zw_55 (by decide) (N := 6) (by decide) (by decide) (Nat.le_of_ble_eq_true rfl) (Nat.le_of_ble_eq_true rfl) (fun h9 μ10 => ?_)
  refine J_pR zd_F_init_35 zf_F_25 ⟨zt_F, zn_F, Or.inr ⟨rfl, rfl, rfl⟩⟩ (Or.inr ⟨_, rfl⟩) rfl (fun μ11 => ?_)
  refine J_aload_n zd_F_init_38 rfl ?_
  refine J_bipush (v := 6) zd_F_init_39 (by decide) ?_
  refine J_newz zd_F_init_41 zw_138 (by decide) (N := 6) (by decide) (by decide) (Nat.le_of_ble_eq_true rfl) (Nat.le_of_ble_eq_true rfl) (fun h12 μ13 => ?_)
  refine J_pR zd_F_init_43 zf_F_28 ⟨zt_F, zn_F, Or.inr ⟨rfl, rfl, rfl⟩⟩ (Or.inr ⟨_, rfl⟩) rfl (fun μ14 => ?_)
  refine J_aload_n zd_F_init_46 rfl ?_
  refine J_bipush (v := 6) zd_F_init_47 (by decide) ?_
  refine J_newa zd_F_init_49 zw_55 (by decide) (N := 6) (by decide) (by decide) (Nat.le_of_ble_eq_true rfl) (Nat.le_of_ble_eq_true rfl) (fun h15 μ16 => ?_)
  refine J_pR zd_F_init_51 zf_F_32 ⟨zt_F, zn_F, Or.inr ⟨rfl, rfl, rfl⟩⟩ (Or.inr ⟨_, rfl⟩) rfl (fun μ17 => ?_)
  exact J_vret zd_F_init_54 rfl (Nat.le_of_ble_eq_true rfl) (Nat.le_of_ble_eq_true rfl)
def f_S_init (a0 : Nat) (μ : Mem) : Option (LV × Mem) := cN a0 (nO μ (0, 12) (fun h1 μ2 => pR 7 a0 0 h1 μ2 (fun μ3 => nO μ3 (0, 20) (fun h4 μ5 => pR 7 a0 1 h4 μ5 (fun μ6 => pI 7 a0 2 0 μ6 (fun μ7 => nO μ7 (0, 12) (fun h8 μ9 => pR 7 a0 3 h8 μ9 (fun μ10 => (some (.inl 0, μ10))))))))))
set_option maxRecDepth 20000 in
theorem c_S_init (E : EV) (a0 : Nat) (μ : Mem) : Ct E I_S_init (rmk 1 3 44) [.inr a0] μ (f_S_init a0 μ) := by
  refine Ct.of (k := 0) (by decide +kernel) rfl ?_
  show J E I_S_init (rmk 1 3 44) (QR E I_S_init (rmk 1 3 44)) 0 0 μ 0 [some (.inr a0)] [] (f_S_init a0 μ)
  unfold f_S_init
  refine J_aload_n zd_S_init_0 rfl ?_
  refine J_obj zd_S_init_1 zw_144 zw_27 zw_28 (Nat.le_of_ble_eq_true rfl) (Nat.le_of_ble_eq_true rfl) (Nat.le_of_ble_eq_true rfl) ?_
  refine J_aload_n zd_S_init_4 rfl ?_
  refine J_bipush (v := 12) zd_S_init_5 (by decide) ?_
  refine J_newa zd_S_init_7 zw_55 (by decide) (N := 12) (by decide) (by decide) (Nat.le_of_ble_eq_true rfl) (Nat.le_of_ble_eq_true rfl) (fun h1 μ2 => ?_)
  refine J_pR zd_S_init_9 zf_S_9 ⟨zt_S, zn_S, Or.inr ⟨rfl, rfl, rfl⟩⟩ (Or.inr ⟨_, rfl⟩) rfl (fun μ3 => ?_)
  refine J_aload_n zd_S_init_12 rfl ?_
  refine J_bipush (v := 20) zd_S_init_13 (by decide) ?_
  refine J_newa zd_S_init_15 zw_55 (by decide) (N := 20) (by decide) (by decide) (Nat.le_of_ble_eq_true rfl) (Nat.le_of_ble_eq_true rfl) (fun h4 μ5 => ?_)
  refine J_pR zd_S_init_17 zf_S_15 ⟨zt_S, zn_S, Or.inr ⟨rfl, rfl, rfl⟩⟩ (Or.inr ⟨_, rfl⟩) rfl (fun μ6 => ?_)
  refine J_aload_n zd_S_init_20 rfl ?_
  refine J_iconst (v := 0) zd_S_init_21 (by decide) ?_
  refine J_pI zd_S_init_22 zf_S_18 ⟨zt_S, zn_S, Or.inl rfl⟩ rfl rfl (fun μ7 => ?_)
  refine J_aload_n zd_S_init_25 rfl ?_
  refine J_bipush (v := 12) zd_S_init_26 (by decide) ?_
  refine J_newa zd_S_init_28 zw_55 (by decide) (N := 12) (by decide) (by decide) (Nat.le_of_ble_eq_true rfl) (Nat.le_of_ble_eq_true rfl) (fun h8 μ9 => ?_)
  refine J_pR zd_S_init_30 zf_S_22 ⟨zt_S, zn_S, Or.inr ⟨rfl, rfl, rfl⟩⟩ (Or.inr ⟨_, rfl⟩) rfl (fun μ10 => ?_)
  exact J_vret zd_S_init_33 rfl (Nat.le_of_ble_eq_true rfl) (Nat.le_of_ble_eq_true rfl)
def f_Q_init (a0 : Nat) (a1 : Int32) (a2 : Int32) (a3 : Int32) (μ : Mem) : Option (LV × Mem) := cN a0 (nO μ (0, 8) (fun h1 μ2 => pR 6 a0 2 h1 μ2 (fun μ3 => nO μ3 (0, 8) (fun h4 μ5 => pR 6 a0 3 h4 μ5 (fun μ6 => pI 6 a0 5 0 μ6 (fun μ7 => pI 6 a0 0 a1 μ7 (fun μ8 => pI 6 a0 1 a2 μ8 (fun μ9 => pI 6 a0 4 a3 μ9 (fun μ10 => (some (.inl 0, μ10)))))))))))
set_option maxRecDepth 20000 in
theorem c_Q_init (E : EV) (a0 : Nat) (a1 : Int32) (a2 : Int32) (a3 : Int32) (μ : Mem) : Ct E I_Q_init (rmk 1 2 16) [.inr a0, .inl a1, .inl a2, .inl a3] μ (f_Q_init a0 a1 a2 a3 μ) := by
  refine Ct.of (k := 0) (by decide +kernel) rfl ?_
  show J E I_Q_init (rmk 1 2 16) (QR E I_Q_init (rmk 1 2 16)) 0 0 μ 0 [some (.inr a0), some (.inl a1), some (.inl a2), some (.inl a3)] [] (f_Q_init a0 a1 a2 a3 μ)
  unfold f_Q_init
  refine J_aload_n zd_Q_init_0 rfl ?_
  refine J_obj zd_Q_init_1 zw_234 zw_27 zw_28 (Nat.le_of_ble_eq_true rfl) (Nat.le_of_ble_eq_true rfl) (Nat.le_of_ble_eq_true rfl) ?_
  refine J_aload_n zd_Q_init_4 rfl ?_
  refine J_bipush (v := 8) zd_Q_init_5 (by decide) ?_
  refine J_newa zd_Q_init_7 zw_55 (by decide) (N := 8) (by decide) (by decide) (Nat.le_of_ble_eq_true rfl) (Nat.le_of_ble_eq_true rfl) (fun h1 μ2 => ?_)
  refine J_pR zd_Q_init_9 zf_Q_9 ⟨zt_Q, zn_Q, Or.inr ⟨rfl, rfl, rfl⟩⟩ (Or.inr ⟨_, rfl⟩) rfl (fun μ3 => ?_)
  refine J_aload_n zd_Q_init_12 rfl ?_
  refine J_bipush (v := 8) zd_Q_init_13 (by decide) ?_
  refine J_newa zd_Q_init_15 zw_55 (by decide) (N := 8) (by decide) (by decide) (Nat.le_of_ble_eq_true rfl) (Nat.le_of_ble_eq_true rfl) (fun h4 μ5 => ?_)
  refine J_pR zd_Q_init_17 zf_Q_15 ⟨zt_Q, zn_Q, Or.inr ⟨rfl, rfl, rfl⟩⟩ (Or.inr ⟨_, rfl⟩) rfl (fun μ6 => ?_)
  refine J_aload_n zd_Q_init_20 rfl ?_
  refine J_iconst (v := 0) zd_Q_init_21 (by decide) ?_
  refine J_pI zd_Q_init_22 zf_Q_18 ⟨zt_Q, zn_Q, Or.inl rfl⟩ rfl rfl (fun μ7 => ?_)
  refine J_aload_n zd_Q_init_25 rfl ?_
  refine J_iload_n zd_Q_init_26 rfl ?_
  refine J_pI zd_Q_init_27 zf_Q_22 ⟨zt_Q, zn_Q, Or.inr ⟨rfl, rfl, rfl⟩⟩ rfl rfl (fun μ8 => ?_)
  refine J_aload_n zd_Q_init_30 rfl ?_
  refine J_iload_n zd_Q_init_31 rfl ?_
  refine J_pI zd_Q_init_32 zf_Q_25 ⟨zt_Q, zn_Q, Or.inr ⟨rfl, rfl, rfl⟩⟩ rfl rfl (fun μ9 => ?_)
  refine J_aload_n zd_Q_init_35 rfl ?_
  refine J_iload_n zd_Q_init_36 rfl ?_
  refine J_pI zd_Q_init_37 zf_Q_28 ⟨zt_Q, zn_Q, Or.inl rfl⟩ rfl rfl (fun μ10 => ?_)
  exact J_vret zd_Q_init_40 rfl (Nat.le_of_ble_eq_true rfl) (Nat.le_of_ble_eq_true rfl)
def b_Q_partIn_33  (a0 : Nat) (a1 : Int32) (a3 : Int32) (s0 : Int32) (μ : Mem) : Option (LV × Mem) := (if a3 = 0 then (some (.inl 0, μ)) else (if s0 = 0 then gR 6 a0 3 μ (fun r1 => aI r1 a1 μ (fun v2 => gR 6 a0 2 μ (fun r3 => aI r3 a1 μ (fun v4 => idv (1024 * (v2 + 1)) (v4 + 2) (fun v5 => (some (.inl v5, μ))))))) else (some (.inl 0, μ))))
set_option maxRecDepth 20000 in
theorem j_Q_partIn_33 (E : EV) (a0 : Nat) (a1 : Int32) (a3 : Int32) (s0 : Int32) (μ : Mem)  : J E I_Q_partIn (rmk 1 0 0) (QR E I_Q_partIn (rmk 1 0 0)) 0 0 μ 33 [some (.inr a0), some (.inl a1), none, some (.inl a3), none] [.inl s0] (b_Q_partIn_33 a0 a1 a3 s0 μ) := by
  unfold b_Q_partIn_33
  refine J_istore (lv' := [some _, some _, none, some _, some _]) zd_Q_partIn_33 (Nat.le_of_ble_eq_true rfl) rfl ?_
  refine J_iload_n zd_Q_partIn_35 rfl ?_
  refine J_if_eq (tgt := 68) zd_Q_partIn_36 rfl ?_ ?_
  · refine J_iconst (v := 0) zd_Q_partIn_68 (by decide) ?_
    exact J_iret zd_Q_partIn_69 rfl (Nat.le_of_ble_eq_true rfl) (Nat.le_of_ble_eq_true rfl)
  · refine J_iload zd_Q_partIn_39 rfl ?_
    refine J_if_ne (tgt := 68) zd_Q_partIn_41 rfl ?_ ?_
    · refine J_iconst (v := 0) zd_Q_partIn_68 (by decide) ?_
      exact J_iret zd_Q_partIn_69 rfl (Nat.le_of_ble_eq_true rfl) (Nat.le_of_ble_eq_true rfl)
    · refine J_sipush (v := 1024) zd_Q_partIn_44 (by decide) ?_
      refine J_aload_n zd_Q_partIn_47 rfl ?_
      refine J_gR zd_Q_partIn_48 zf_Q_15 rfl (fun r1 => ?_)
      refine J_iload_n zd_Q_partIn_51 rfl ?_
      refine J_aI zd_Q_partIn_52 (fun v2 => ?_)
      refine J_iconst (v := 1) zd_Q_partIn_53 (by decide) ?_
      refine J_iadd zd_Q_partIn_54 ?_
      refine J_imul zd_Q_partIn_55 ?_
      refine J_aload_n zd_Q_partIn_56 rfl ?_
      refine J_gR zd_Q_partIn_57 zf_Q_9 rfl (fun r3 => ?_)
      refine J_iload_n zd_Q_partIn_60 rfl ?_
      refine J_aI zd_Q_partIn_61 (fun v4 => ?_)
      refine J_iconst (v := 2) zd_Q_partIn_62 (by decide) ?_
      refine J_iadd zd_Q_partIn_63 ?_
      refine J_idiv zd_Q_partIn_64 (fun v5 => ?_)
      refine J_goto (tgt := 69) zd_Q_partIn_65 rfl ?_
      exact J_iret zd_Q_partIn_69 rfl (Nat.le_of_ble_eq_true rfl) (Nat.le_of_ble_eq_true rfl)
def b_Q_partIn_19  (a0 : Nat) (a1 : Int32) (a2 : Int32) (s0 : Int32) (μ : Mem) : Option (LV × Mem) := gI 6 a0 5 μ (fun v6 => (if v6 ≤ a2 then (b_Q_partIn_33 a0 a1 s0 0 μ) else (b_Q_partIn_33 a0 a1 s0 1 μ)))
set_option maxRecDepth 20000 in
theorem j_Q_partIn_19 (E : EV) (a0 : Nat) (a1 : Int32) (a2 : Int32) (s0 : Int32) (μ : Mem)  : J E I_Q_partIn (rmk 1 0 0) (QR E I_Q_partIn (rmk 1 0 0)) 0 0 μ 19 [some (.inr a0), some (.inl a1), some (.inl a2), none, none] [.inl s0] (b_Q_partIn_19 a0 a1 a2 s0 μ) := by
  unfold b_Q_partIn_19
  refine J_istore_n (lv' := [some _, some _, some _, some _, none]) zd_Q_partIn_19 (Nat.le_of_ble_eq_true rfl) rfl ?_
  refine J_iload_n zd_Q_partIn_20 rfl ?_
  refine J_aload_n zd_Q_partIn_21 rfl ?_
  refine J_gI zd_Q_partIn_22 zf_Q_18 rfl (fun v6 => ?_)
  refine J_icmp_ge (tgt := 32) zd_Q_partIn_25 rfl ?_ ?_
  · refine J_iconst (v := 0) zd_Q_partIn_32 (by decide) ?_
    refine J_wid (k := 0) (n := 0) (Nat.le_of_ble_eq_true rfl) (Nat.le_of_ble_eq_true rfl) ?_
    refine J_keep [true, true, false, true, false] rfl ?_
    exact j_Q_partIn_33 E _ _ _ _ _
  · refine J_iconst (v := 1) zd_Q_partIn_28 (by decide) ?_
    refine J_goto (tgt := 33) zd_Q_partIn_29 rfl ?_
    refine J_wid (k := 0) (n := 0) (Nat.le_of_ble_eq_true rfl) (Nat.le_of_ble_eq_true rfl) ?_
    refine J_keep [true, true, false, true, false] rfl ?_
    exact j_Q_partIn_33 E _ _ _ _ _
def f_Q_partIn (a0 : Nat) (a1 : Int32) (a2 : Int32) (μ : Mem) : Option (LV × Mem) := gI 6 a0 4 μ (fun v7 => (if v7 < ((a2 / 60) / 24) then (b_Q_partIn_19 a0 a1 a2 0 μ) else (b_Q_partIn_19 a0 a1 a2 1 μ)))
set_option maxRecDepth 20000 in
theorem c_Q_partIn (E : EV) (a0 : Nat) (a1 : Int32) (a2 : Int32) (μ : Mem) : Ct E I_Q_partIn (rmk 1 0 0) [.inr a0, .inl a1, .inl a2] μ (f_Q_partIn a0 a1 a2 μ) := by
  refine Ct.of (k := 2) (by decide +kernel) rfl ?_
  show J E I_Q_partIn (rmk 1 0 0) (QR E I_Q_partIn (rmk 1 0 0)) 0 0 μ 0 [some (.inr a0), some (.inl a1), some (.inl a2), none, none] [] (f_Q_partIn a0 a1 a2 μ)
  unfold f_Q_partIn
  refine J_iload_n zd_Q_partIn_0 rfl ?_
  refine J_bipush (v := 60) zd_Q_partIn_1 (by decide) ?_
  refine J_idivL zd_Q_partIn_3 (by decide) ?_
  refine J_bipush (v := 24) zd_Q_partIn_4 (by decide) ?_
  refine J_idivL zd_Q_partIn_6 (by decide) ?_
  refine J_aload_n zd_Q_partIn_7 rfl ?_
  refine J_gI zd_Q_partIn_8 zf_Q_28 rfl (fun v7 => ?_)
  refine J_icmp_gt (tgt := 18) zd_Q_partIn_11 rfl ?_ ?_
  · refine J_iconst (v := 0) zd_Q_partIn_18 (by decide) ?_
    refine J_wid (k := 0) (n := 0) (Nat.le_of_ble_eq_true rfl) (Nat.le_of_ble_eq_true rfl) ?_
    refine J_keep [true, true, true, false, false] rfl ?_
    exact j_Q_partIn_19 E _ _ _ _ _
  · refine J_iconst (v := 1) zd_Q_partIn_14 (by decide) ?_
    refine J_goto (tgt := 19) zd_Q_partIn_15 rfl ?_
    refine J_wid (k := 0) (n := 0) (Nat.le_of_ble_eq_true rfl) (Nat.le_of_ble_eq_true rfl) ?_
    refine J_keep [true, true, true, false, false] rfl ?_
    exact j_Q_partIn_19 E _ _ _ _ _
def f_R_clear (a0 : Nat) (μ : Mem) : Option (LV × Mem) := gR 2 a0 0 μ (fun r1 => bV (f_AR_fill r1 0 μ) (fun μ2 => gR 2 a0 0 μ2 (fun r3 => aS r3 0 1048576 μ2 (fun μ4 => pI 2 a0 1 0 μ4 (fun μ5 => (some (.inl 0, μ5)))))))
set_option maxRecDepth 20000 in
theorem c_R_clear (E : EV) (a0 : Nat) (μ : Mem) : Ct E I_R_clear (rmk 2 0 0) [.inr a0] μ (f_R_clear a0 μ) := by
  refine Ct.of (k := 0) (by decide +kernel) rfl ?_
  show J E I_R_clear (rmk 2 0 0) (QR E I_R_clear (rmk 2 0 0)) 0 0 μ 0 [some (.inr a0)] [] (f_R_clear a0 μ)
  unfold f_R_clear
  refine J_aload_n zd_R_clear_0 rfl ?_
  refine J_gR zd_R_clear_1 zf_R_11 rfl (fun r1 => ?_)
  refine J_iconst (v := 0) zd_R_clear_4 (by decide) ?_
  refine J_callSv (as := [.inr _, .inl _]) zd_R_clear_5 zm_AR_fill ⟨Nat.le_of_ble_eq_true rfl, Nat.le_of_ble_eq_true rfl⟩ zw_376 zw_63 rfl (Nat.le_of_ble_eq_true rfl) ⟨Nat.le_of_ble_eq_true rfl, Nat.le_of_ble_eq_true rfl⟩ rfl rfl (c_AR_fill E _ _ _) (fun μ2 => ?_)
  refine J_aload_n zd_R_clear_8 rfl ?_
  refine J_gR zd_R_clear_9 zf_R_11 rfl (fun r3 => ?_)
  refine J_iconst (v := 0) zd_R_clear_12 (by decide) ?_
  refine J_ldc zd_R_clear_13 zw_377 ?_
  refine J_aS zd_R_clear_15 (fun μ4 => ?_)
  refine J_aload_n zd_R_clear_16 rfl ?_
  refine J_iconst (v := 0) zd_R_clear_17 (by decide) ?_
  refine J_pI zd_R_clear_18 zf_R_15 ⟨zt_R, zn_R, Or.inl rfl⟩ rfl rfl (fun μ5 => ?_)
  exact J_vret zd_R_clear_21 rfl (Nat.le_of_ble_eq_true rfl) (Nat.le_of_ble_eq_true rfl)
def f_R_stepUp (a0 : Int32) (a1 : Int32) (a2 : Int32) (μ : Mem) : Option (LV × Mem) := idv a0 a1 (fun v1 => irv v1 (a2 + 1) (fun v2 => (if a2 ≤ v2 then (some (.inl a0, μ)) else (some (.inl (a0 + a1), μ)))))
set_option maxRecDepth 20000 in
theorem c_R_stepUp (E : EV) (a0 : Int32) (a1 : Int32) (a2 : Int32) (μ : Mem) : Ct E I_R_stepUp (rmk 1 0 0) [.inl a0, .inl a1, .inl a2] μ (f_R_stepUp a0 a1 a2 μ) := by
  refine Ct.of (k := 0) (by decide +kernel) rfl ?_
  show J E I_R_stepUp (rmk 1 0 0) (QR E I_R_stepUp (rmk 1 0 0)) 0 0 μ 0 [some (.inl a0), some (.inl a1), some (.inl a2)] [] (f_R_stepUp a0 a1 a2 μ)
  unfold f_R_stepUp
  refine J_iload_n zd_R_stepUp_0 rfl ?_
  refine J_iload_n zd_R_stepUp_1 rfl ?_
  refine J_idiv zd_R_stepUp_2 (fun v1 => ?_)
  refine J_iload_n zd_R_stepUp_3 rfl ?_
  refine J_iconst (v := 1) zd_R_stepUp_4 (by decide) ?_
  refine J_iadd zd_R_stepUp_5 ?_
  refine J_irem zd_R_stepUp_6 (fun v2 => ?_)
  refine J_iload_n zd_R_stepUp_7 rfl ?_
  refine J_icmp_ge (tgt := 17) zd_R_stepUp_8 rfl ?_ ?_
  · refine J_iload_n zd_R_stepUp_17 rfl ?_
    exact J_iret zd_R_stepUp_18 rfl (Nat.le_of_ble_eq_true rfl) (Nat.le_of_ble_eq_true rfl)
  · refine J_iload_n zd_R_stepUp_11 rfl ?_
    refine J_iload_n zd_R_stepUp_12 rfl ?_
    refine J_iadd zd_R_stepUp_13 ?_
    refine J_goto (tgt := 18) zd_R_stepUp_14 rfl ?_
    exact J_iret zd_R_stepUp_18 rfl (Nat.le_of_ble_eq_true rfl) (Nat.le_of_ble_eq_true rfl)
def f_R_rowWith (a0 : Int32) (a1 : Int32) (μ : Mem) : Option (LV × Mem) := (if (a1 &&& 8) = 0 then bI (f_R_stepUp a0 189 6 μ) (fun v2 μ1 => nm (a1 &&& 3) (fun v3 => (if v3 = 1 then bI (f_R_stepUp v2 9 2 μ1) (fun v5 μ4 => (some (.inl v5, μ4))) else (if v3 = 2 then bI (f_R_stepUp v2 3 2 μ1) (fun v7 μ6 => (some (.inl v7, μ6))) else (if v3 = 3 then bI (f_R_stepUp v2 1 2 μ1) (fun v9 μ8 => (some (.inl v9, μ8))) else (some (.inl v2, μ1))))))) else bI (f_R_stepUp a0 27 6 μ) (fun v11 μ10 => (some (.inl v11, μ10))))
set_option maxRecDepth 20000 in
theorem c_R_rowWith (E : EV) (a0 : Int32) (a1 : Int32) (μ : Mem) : Ct E I_R_rowWith (rmk 2 0 0) [.inl a0, .inl a1] μ (f_R_rowWith a0 a1 μ) := by
  refine Ct.of (k := 1) (by decide +kernel) rfl ?_
  show J E I_R_rowWith (rmk 2 0 0) (QR E I_R_rowWith (rmk 2 0 0)) 0 0 μ 0 [some (.inl a0), some (.inl a1), none] [] (f_R_rowWith a0 a1 μ)
  unfold f_R_rowWith
  refine J_iload_n zd_R_rowWith_0 rfl ?_
  refine J_bipush (v := 8) zd_R_rowWith_1 (by decide) ?_
  refine J_iand zd_R_rowWith_3 ?_
  refine J_if_eq (tgt := 16) zd_R_rowWith_4 rfl ?_ ?_
  · refine J_iload_n zd_R_rowWith_16 rfl ?_
    refine J_sipush (v := 189) zd_R_rowWith_17 (by decide) ?_
    refine J_bipush (v := 6) zd_R_rowWith_20 (by decide) ?_
    refine J_callSi (as := [.inl _, .inl _, .inl _]) zd_R_rowWith_22 zm_R_stepUp ⟨Nat.le_of_ble_eq_true rfl, Nat.le_of_ble_eq_true rfl⟩ zw_385 zw_386 rfl (Nat.le_of_ble_eq_true rfl) ⟨Nat.le_of_ble_eq_true rfl, Nat.le_of_ble_eq_true rfl⟩ rfl rfl (c_R_stepUp E _ _ _ _) (fun v2 μ1 => ?_)
    refine J_istore_n (lv' := [some _, some _, some _]) zd_R_rowWith_25 (Nat.le_of_ble_eq_true rfl) rfl ?_
    refine J_iload_n zd_R_rowWith_26 rfl ?_
    refine J_iconst (v := 3) zd_R_rowWith_27 (by decide) ?_
    refine J_iand zd_R_rowWith_28 ?_
    refine J_nm (fun v3 => ?_)
    refine J_swc (v := 1) (fun q1 => ?_) (fun q1 => ?_)
    · refine J_swIn (v := 1) zd_R_rowWith_29 q1 (by decide) (by decide) (off := 27) (tgt := 56) (by decide) rfl ?_
      refine J_iload_n zd_R_rowWith_56 rfl ?_
      refine J_bipush (v := 9) zd_R_rowWith_57 (by decide) ?_
      refine J_iconst (v := 2) zd_R_rowWith_59 (by decide) ?_
      refine J_callSi (as := [.inl _, .inl _, .inl _]) zd_R_rowWith_60 zm_R_stepUp ⟨Nat.le_of_ble_eq_true rfl, Nat.le_of_ble_eq_true rfl⟩ zw_385 zw_386 rfl (Nat.le_of_ble_eq_true rfl) ⟨Nat.le_of_ble_eq_true rfl, Nat.le_of_ble_eq_true rfl⟩ rfl rfl (c_R_stepUp E _ _ _ _) (fun v5 μ4 => ?_)
      exact J_iret zd_R_rowWith_63 rfl (Nat.le_of_ble_eq_true rfl) (Nat.le_of_ble_eq_true rfl)
    · skip
      refine J_swc (v := 2) (fun q2 => ?_) (fun q2 => ?_)
      · refine J_swIn (v := 2) zd_R_rowWith_29 q2 (by decide) (by decide) (off := 35) (tgt := 64) (by decide) rfl ?_
        refine J_iload_n zd_R_rowWith_64 rfl ?_
        refine J_iconst (v := 3) zd_R_rowWith_65 (by decide) ?_
        refine J_iconst (v := 2) zd_R_rowWith_66 (by decide) ?_
        refine J_callSi (as := [.inl _, .inl _, .inl _]) zd_R_rowWith_67 zm_R_stepUp ⟨Nat.le_of_ble_eq_true rfl, Nat.le_of_ble_eq_true rfl⟩ zw_385 zw_386 rfl (Nat.le_of_ble_eq_true rfl) ⟨Nat.le_of_ble_eq_true rfl, Nat.le_of_ble_eq_true rfl⟩ rfl rfl (c_R_stepUp E _ _ _ _) (fun v7 μ6 => ?_)
        exact J_iret zd_R_rowWith_70 rfl (Nat.le_of_ble_eq_true rfl) (Nat.le_of_ble_eq_true rfl)
      · skip
        refine J_swc (v := 3) (fun q3 => ?_) (fun q3 => ?_)
        · refine J_swIn (v := 3) zd_R_rowWith_29 q3 (by decide) (by decide) (off := 42) (tgt := 71) (by decide) rfl ?_
          refine J_iload_n zd_R_rowWith_71 rfl ?_
          refine J_iconst (v := 1) zd_R_rowWith_72 (by decide) ?_
          refine J_iconst (v := 2) zd_R_rowWith_73 (by decide) ?_
          refine J_callSi (as := [.inl _, .inl _, .inl _]) zd_R_rowWith_74 zm_R_stepUp ⟨Nat.le_of_ble_eq_true rfl, Nat.le_of_ble_eq_true rfl⟩ zw_385 zw_386 rfl (Nat.le_of_ble_eq_true rfl) ⟨Nat.le_of_ble_eq_true rfl, Nat.le_of_ble_eq_true rfl⟩ rfl rfl (c_R_stepUp E _ _ _ _) (fun v9 μ8 => ?_)
          exact J_iret zd_R_rowWith_77 rfl (Nat.le_of_ble_eq_true rfl) (Nat.le_of_ble_eq_true rfl)
        · skip
          refine J_swOut (tgt := 78) zd_R_rowWith_29 (sw_out [1, 2, 3] (List.forall_mem_cons.mpr ⟨q1, List.forall_mem_cons.mpr ⟨q2, List.forall_mem_cons.mpr ⟨q3, fun _ h => absurd h List.not_mem_nil⟩⟩⟩) (by decide +kernel)) rfl ?_
          refine J_iload_n zd_R_rowWith_78 rfl ?_
          exact J_iret zd_R_rowWith_79 rfl (Nat.le_of_ble_eq_true rfl) (Nat.le_of_ble_eq_true rfl)
  · refine J_iload_n zd_R_rowWith_7 rfl ?_
    refine J_bipush (v := 27) zd_R_rowWith_8 (by decide) ?_
    refine J_bipush (v := 6) zd_R_rowWith_10 (by decide) ?_
    refine J_callSi (as := [.inl _, .inl _, .inl _]) zd_R_rowWith_12 zm_R_stepUp ⟨Nat.le_of_ble_eq_true rfl, Nat.le_of_ble_eq_true rfl⟩ zw_385 zw_386 rfl (Nat.le_of_ble_eq_true rfl) ⟨Nat.le_of_ble_eq_true rfl, Nat.le_of_ble_eq_true rfl⟩ rfl rfl (c_R_stepUp E _ _ _ _) (fun v11 μ10 => ?_)
    exact J_iret zd_R_rowWith_15 rfl (Nat.le_of_ble_eq_true rfl) (Nat.le_of_ble_eq_true rfl)
def b_R_mayCome_61 (c5 : Int32 → Mem → Option (LV × Mem)) (a0 : Nat) (a1 : Int32) (a2 : Int32) (a3 : Int32)  (μ : Mem) : Option (LV × Mem) := (c5 (a3 + (-1)) μ)
set_option maxRecDepth 20000 in
theorem j_R_mayCome_61 (E : EV) (a0 : Nat) (a1 : Int32) (a2 : Int32) (a3 : Int32)  (μ : Mem) {c5 : Int32 → Mem → Option (LV × Mem)} (h5 : ∀ (b3 : Int32)  (μ : Mem), J E I_R_mayCome (rmk 3 0 0) (QR E I_R_mayCome (rmk 3 0 0)) 0 0 μ 5 [some (.inr a0), some (.inl a1), some (.inl a2), some (.inl b3), none, none] [] (c5 b3 μ)) : J E I_R_mayCome (rmk 3 0 0) (QR E I_R_mayCome (rmk 3 0 0)) 0 0 μ 61 [some (.inr a0), some (.inl a1), some (.inl a2), some (.inl a3), none, none] [] (b_R_mayCome_61 c5 a0 a1 a2 a3 μ) := by
  unfold b_R_mayCome_61
  refine J_iinc (v := _ + (-1)) (lv' := [some _, some _, some _, some _, none, none]) zd_R_mayCome_61 (Nat.le_of_ble_eq_true rfl) rfl (by rfl) rfl ?_
  refine J_goto (tgt := 5) zd_R_mayCome_64 rfl ?_
  refine J_wid (k := 0) (n := 0) (Nat.le_of_ble_eq_true rfl) (Nat.le_of_ble_eq_true rfl) ?_
  refine J_keep [true, true, true, true, false, false] rfl ?_
  exact h5 _ _
def k_R_mayCome_5 (c67 : Nat → Int32 → Mem → Option (LV × Mem)) (a0 : Nat) (a1 : Int32) (a2 : Int32) : Nat → Int32 → Mem → Option (LV × Mem)
  | 0, _, _ => none
  | n + 1, a3, μ => (if a3 < 0 then (c67 a0 a1 μ) else gR 2 a0 0 μ (fun r1 => aI r1 a3 μ (fun v2 => (if v2 = 0 then (b_R_mayCome_61 (k_R_mayCome_5 c67 a0 a1 a2 n) a0 a1 a2 a3 μ) else nm ((v2 * a2) / 1024) (fun v3 => gR 2 a0 0 μ (fun r4 => aS r4 a3 (v2 - v3) μ (fun μ5 => gR 2 a0 0 μ5 (fun r6 => bI (f_R_rowWith a3 a1 μ5) (fun v8 μ7 => aI r6 v8 μ7 (fun v9 => aS r6 v8 (v9 + v3) μ7 (fun μ10 => (b_R_mayCome_61 (k_R_mayCome_5 c67 a0 a1 a2 n) a0 a1 a2 a3 μ10))))))))))))
set_option maxRecDepth 20000 in
theorem j_R_mayCome_5 (E : EV) (a0 : Nat) (a1 : Int32) (a2 : Int32) {c67 : Nat → Int32 → Mem → Option (LV × Mem)} (h67 : ∀ (b0 : Nat) (b1 : Int32)  (μ : Mem), J E I_R_mayCome (rmk 3 0 0) (QR E I_R_mayCome (rmk 3 0 0)) 0 0 μ 67 [some (.inr b0), some (.inl b1), none, none, none, none] [] (c67 b0 b1 μ)) : ∀ (n : Nat) (a3 : Int32) (μ : Mem), J E I_R_mayCome (rmk 3 0 0) (QR E I_R_mayCome (rmk 3 0 0)) 0 0 μ 5 [some (.inr a0), some (.inl a1), some (.inl a2), some (.inl a3), none, none] [] (k_R_mayCome_5 c67 a0 a1 a2 n a3 μ)
  | 0, _, _ => J_none
  | n + 1, a3, μ => by
    show J E I_R_mayCome (rmk 3 0 0) (QR E I_R_mayCome (rmk 3 0 0)) 0 0 μ 5 [some (.inr a0), some (.inl a1), some (.inl a2), some (.inl a3), none, none] [] ((if a3 < 0 then (c67 a0 a1 μ) else gR 2 a0 0 μ (fun r1 => aI r1 a3 μ (fun v2 => (if v2 = 0 then (b_R_mayCome_61 (k_R_mayCome_5 c67 a0 a1 a2 n) a0 a1 a2 a3 μ) else nm ((v2 * a2) / 1024) (fun v3 => gR 2 a0 0 μ (fun r4 => aS r4 a3 (v2 - v3) μ (fun μ5 => gR 2 a0 0 μ5 (fun r6 => bI (f_R_rowWith a3 a1 μ5) (fun v8 μ7 => aI r6 v8 μ7 (fun v9 => aS r6 v8 (v9 + v3) μ7 (fun μ10 => (b_R_mayCome_61 (k_R_mayCome_5 c67 a0 a1 a2 n) a0 a1 a2 a3 μ10)))))))))))))
    refine J_iload_n zd_R_mayCome_5 rfl ?_
    refine J_if_lt (tgt := 67) zd_R_mayCome_6 rfl ?_ ?_
    · refine J_wid (k := 0) (n := 0) (Nat.le_of_ble_eq_true rfl) (Nat.le_of_ble_eq_true rfl) ?_
      refine J_keep [true, true, false, false, false, false] rfl ?_
      exact h67 _ _ _
    · refine J_aload_n zd_R_mayCome_9 rfl ?_
      refine J_gR zd_R_mayCome_10 zf_R_11 rfl (fun r1 => ?_)
      refine J_iload_n zd_R_mayCome_13 rfl ?_
      refine J_aI zd_R_mayCome_14 (fun v2 => ?_)
      refine J_istore (lv' := [some _, some _, some _, some _, some _, none]) zd_R_mayCome_15 (Nat.le_of_ble_eq_true rfl) rfl ?_
      refine J_iload zd_R_mayCome_17 rfl ?_
      refine J_if_ne (tgt := 25) zd_R_mayCome_19 rfl ?_ ?_
      · refine J_iload zd_R_mayCome_25 rfl ?_
        refine J_iload_n zd_R_mayCome_27 rfl ?_
        refine J_imul zd_R_mayCome_28 ?_
        refine J_sipush (v := 1024) zd_R_mayCome_29 (by decide) ?_
        refine J_idivL zd_R_mayCome_32 (by decide) ?_
        refine J_nm (fun v3 => ?_)
        refine J_istore (lv' := [some _, some _, some _, some _, some _, some _]) zd_R_mayCome_33 (Nat.le_of_ble_eq_true rfl) rfl ?_
        refine J_aload_n zd_R_mayCome_35 rfl ?_
        refine J_gR zd_R_mayCome_36 zf_R_11 rfl (fun r4 => ?_)
        refine J_iload_n zd_R_mayCome_39 rfl ?_
        refine J_iload zd_R_mayCome_40 rfl ?_
        refine J_iload zd_R_mayCome_42 rfl ?_
        refine J_isub zd_R_mayCome_44 ?_
        refine J_aS zd_R_mayCome_45 (fun μ5 => ?_)
        refine J_aload_n zd_R_mayCome_46 rfl ?_
        refine J_gR zd_R_mayCome_47 zf_R_11 rfl (fun r6 => ?_)
        refine J_iload_n zd_R_mayCome_50 rfl ?_
        refine J_iload_n zd_R_mayCome_51 rfl ?_
        refine J_callSi (as := [.inl _, .inl _]) zd_R_mayCome_52 zm_R_rowWith ⟨Nat.le_of_ble_eq_true rfl, Nat.le_of_ble_eq_true rfl⟩ zw_382 zw_383 rfl (Nat.le_of_ble_eq_true rfl) ⟨Nat.le_of_ble_eq_true rfl, Nat.le_of_ble_eq_true rfl⟩ rfl rfl (c_R_rowWith E _ _ _) (fun v8 μ7 => ?_)
        refine J_dup2 zd_R_mayCome_55 ?_
        refine J_aI zd_R_mayCome_56 (fun v9 => ?_)
        refine J_iload zd_R_mayCome_57 rfl ?_
        refine J_iadd zd_R_mayCome_59 ?_
        refine J_aS zd_R_mayCome_60 (fun μ10 => ?_)
        refine J_wid (k := 0) (n := 0) (Nat.le_of_ble_eq_true rfl) (Nat.le_of_ble_eq_true rfl) ?_
        refine J_keep [true, true, true, true, false, false] rfl ?_
        exact j_R_mayCome_61 E _ _ _ _ _ (j_R_mayCome_5 E a0 a1 a2 h67 n)
      · refine J_goto (tgt := 61) zd_R_mayCome_22 rfl ?_
        refine J_wid (k := 0) (n := 0) (Nat.le_of_ble_eq_true rfl) (Nat.le_of_ble_eq_true rfl) ?_
        refine J_keep [true, true, true, true, false, false] rfl ?_
        exact j_R_mayCome_61 E _ _ _ _ _ (j_R_mayCome_5 E a0 a1 a2 h67 n)
def b_R_mayCome_67  (a0 : Nat) (a1 : Int32)  (μ : Mem) : Option (LV × Mem) := gI 2 a0 1 μ (fun v11 => bI (f_R_rowWith v11 a1 μ) (fun v13 μ12 => pI 2 a0 1 v13 μ12 (fun μ14 => (some (.inl 0, μ14)))))
set_option maxRecDepth 20000 in
theorem j_R_mayCome_67 (E : EV) (a0 : Nat) (a1 : Int32)  (μ : Mem)  : J E I_R_mayCome (rmk 3 0 0) (QR E I_R_mayCome (rmk 3 0 0)) 0 0 μ 67 [some (.inr a0), some (.inl a1), none, none, none, none] [] (b_R_mayCome_67 a0 a1 μ) := by
  unfold b_R_mayCome_67
  refine J_aload_n zd_R_mayCome_67 rfl ?_
  refine J_aload_n zd_R_mayCome_68 rfl ?_
  refine J_gI zd_R_mayCome_69 zf_R_15 rfl (fun v11 => ?_)
  refine J_iload_n zd_R_mayCome_72 rfl ?_
  refine J_callSi (as := [.inl _, .inl _]) zd_R_mayCome_73 zm_R_rowWith ⟨Nat.le_of_ble_eq_true rfl, Nat.le_of_ble_eq_true rfl⟩ zw_382 zw_383 rfl (Nat.le_of_ble_eq_true rfl) ⟨Nat.le_of_ble_eq_true rfl, Nat.le_of_ble_eq_true rfl⟩ rfl rfl (c_R_rowWith E _ _ _) (fun v13 μ12 => ?_)
  refine J_pI zd_R_mayCome_76 zf_R_15 ⟨zt_R, zn_R, Or.inl rfl⟩ rfl rfl (fun μ14 => ?_)
  exact J_vret zd_R_mayCome_79 rfl (Nat.le_of_ble_eq_true rfl) (Nat.le_of_ble_eq_true rfl)
def f_R_mayCome (a0 : Nat) (a1 : Int32) (a2 : Int32) (μ : Mem) : Option (LV × Mem) := gI 2 a0 1 μ (fun v15 => (k_R_mayCome_5 (fun b0 b1 m_ => b_R_mayCome_67 b0 b1 m_) a0 a1 a2 120000 v15 μ))
set_option maxRecDepth 20000 in
theorem c_R_mayCome (E : EV) (a0 : Nat) (a1 : Int32) (a2 : Int32) (μ : Mem) : Ct E I_R_mayCome (rmk 3 0 0) [.inr a0, .inl a1, .inl a2] μ (f_R_mayCome a0 a1 a2 μ) := by
  refine Ct.of (k := 3) (by decide +kernel) rfl ?_
  show J E I_R_mayCome (rmk 3 0 0) (QR E I_R_mayCome (rmk 3 0 0)) 0 0 μ 0 [some (.inr a0), some (.inl a1), some (.inl a2), none, none, none] [] (f_R_mayCome a0 a1 a2 μ)
  unfold f_R_mayCome
  refine J_aload_n zd_R_mayCome_0 rfl ?_
  refine J_gI zd_R_mayCome_1 zf_R_15 rfl (fun v15 => ?_)
  refine J_istore_n (lv' := [some _, some _, some _, some _, none, none]) zd_R_mayCome_4 (Nat.le_of_ble_eq_true rfl) rfl ?_
  refine J_wid (k := 0) (n := 0) (Nat.le_of_ble_eq_true rfl) (Nat.le_of_ble_eq_true rfl) ?_
  refine J_keep [true, true, true, true, false, false] rfl ?_
  exact j_R_mayCome_5 E _ _ _ (fun b0 b1 m_ => j_R_mayCome_67 E b0 b1 m_) _ _ _
def b_R_stands_83  (a1 : Int32) (a7 : Int32) (s0 : Int32) (μ : Mem) : Option (LV × Mem) := (if s0 = 0 then (some (.inl 0, μ)) else (if a7 < a1 then (some (.inl 0, μ)) else (some (.inl 1, μ))))
set_option maxRecDepth 20000 in
theorem j_R_stands_83 (E : EV) (a1 : Int32) (a7 : Int32) (s0 : Int32) (μ : Mem)  : J E I_R_stands (rmk 1 0 0) (QR E I_R_stands (rmk 1 0 0)) 0 0 μ 83 [none, some (.inl a1), none, none, none, none, none, some (.inl a7), none] [.inl s0] (b_R_stands_83 a1 a7 s0 μ) := by
  unfold b_R_stands_83
  refine J_istore (lv' := [none, some _, none, none, none, none, none, some _, some _]) zd_R_stands_83 (Nat.le_of_ble_eq_true rfl) rfl ?_
  refine J_iload zd_R_stands_85 rfl ?_
  refine J_if_eq (tgt := 100) zd_R_stands_87 rfl ?_ ?_
  · refine J_iconst (v := 0) zd_R_stands_100 (by decide) ?_
    exact J_zret zd_R_stands_101 rfl rfl (Nat.le_of_ble_eq_true rfl) (Nat.le_of_ble_eq_true rfl)
  · refine J_iload zd_R_stands_90 rfl ?_
    refine J_iload_n zd_R_stands_92 rfl ?_
    refine J_icmp_lt (tgt := 100) zd_R_stands_93 rfl ?_ ?_
    · refine J_iconst (v := 0) zd_R_stands_100 (by decide) ?_
      exact J_zret zd_R_stands_101 rfl rfl (Nat.le_of_ble_eq_true rfl) (Nat.le_of_ble_eq_true rfl)
    · refine J_iconst (v := 1) zd_R_stands_96 (by decide) ?_
      refine J_goto (tgt := 101) zd_R_stands_97 rfl ?_
      exact J_zret zd_R_stands_101 rfl rfl (Nat.le_of_ble_eq_true rfl) (Nat.le_of_ble_eq_true rfl)
def b_R_stands_82  (a1 : Int32) (a7 : Int32)  (μ : Mem) : Option (LV × Mem) := (b_R_stands_83 a1 a7 0 μ)
set_option maxRecDepth 20000 in
theorem j_R_stands_82 (E : EV) (a1 : Int32) (a7 : Int32)  (μ : Mem)  : J E I_R_stands (rmk 1 0 0) (QR E I_R_stands (rmk 1 0 0)) 0 0 μ 82 [none, some (.inl a1), none, none, none, none, none, some (.inl a7), none] [] (b_R_stands_82 a1 a7 μ) := by
  unfold b_R_stands_82
  refine J_iconst (v := 0) zd_R_stands_82 (by decide) ?_
  refine J_wid (k := 0) (n := 0) (Nat.le_of_ble_eq_true rfl) (Nat.le_of_ble_eq_true rfl) ?_
  refine J_keep [false, true, false, false, false, false, false, true, false] rfl ?_
  exact j_R_stands_83 E _ _ _ _
def b_R_stands_46  (a1 : Int32) (a4 : Int32) (a5 : Int32) (a6 : Int32) (s0 : Int32) (μ : Mem) : Option (LV × Mem) := (if (a4 + a6) < 1 then (b_R_stands_82 a1 s0 μ) else (if (a5 + a6) < 1 then (b_R_stands_82 a1 s0 μ) else (if ((a4 + a5) + a6) < 2 then (b_R_stands_82 a1 s0 μ) else (b_R_stands_83 a1 s0 1 μ))))
set_option maxRecDepth 20000 in
theorem j_R_stands_46 (E : EV) (a1 : Int32) (a4 : Int32) (a5 : Int32) (a6 : Int32) (s0 : Int32) (μ : Mem)  : J E I_R_stands (rmk 1 0 0) (QR E I_R_stands (rmk 1 0 0)) 0 0 μ 46 [none, some (.inl a1), none, none, some (.inl a4), some (.inl a5), some (.inl a6), none, none] [.inl s0] (b_R_stands_46 a1 a4 a5 a6 s0 μ) := by
  unfold b_R_stands_46
  refine J_istore (lv' := [none, some _, none, none, some _, some _, some _, some _, none]) zd_R_stands_46 (Nat.le_of_ble_eq_true rfl) rfl ?_
  refine J_iload zd_R_stands_48 rfl ?_
  refine J_iload zd_R_stands_50 rfl ?_
  refine J_iadd zd_R_stands_52 ?_
  refine J_iconst (v := 1) zd_R_stands_53 (by decide) ?_
  refine J_icmp_lt (tgt := 82) zd_R_stands_54 rfl ?_ ?_
  · refine J_wid (k := 0) (n := 0) (Nat.le_of_ble_eq_true rfl) (Nat.le_of_ble_eq_true rfl) ?_
    refine J_keep [false, true, false, false, false, false, false, true, false] rfl ?_
    exact j_R_stands_82 E _ _ _
  · refine J_iload zd_R_stands_57 rfl ?_
    refine J_iload zd_R_stands_59 rfl ?_
    refine J_iadd zd_R_stands_61 ?_
    refine J_iconst (v := 1) zd_R_stands_62 (by decide) ?_
    refine J_icmp_lt (tgt := 82) zd_R_stands_63 rfl ?_ ?_
    · refine J_wid (k := 0) (n := 0) (Nat.le_of_ble_eq_true rfl) (Nat.le_of_ble_eq_true rfl) ?_
      refine J_keep [false, true, false, false, false, false, false, true, false] rfl ?_
      exact j_R_stands_82 E _ _ _
    · refine J_iload zd_R_stands_66 rfl ?_
      refine J_iload zd_R_stands_68 rfl ?_
      refine J_iadd zd_R_stands_70 ?_
      refine J_iload zd_R_stands_71 rfl ?_
      refine J_iadd zd_R_stands_73 ?_
      refine J_iconst (v := 2) zd_R_stands_74 (by decide) ?_
      refine J_icmp_lt (tgt := 82) zd_R_stands_75 rfl ?_ ?_
      · refine J_wid (k := 0) (n := 0) (Nat.le_of_ble_eq_true rfl) (Nat.le_of_ble_eq_true rfl) ?_
        refine J_keep [false, true, false, false, false, false, false, true, false] rfl ?_
        exact j_R_stands_82 E _ _ _
      · refine J_iconst (v := 1) zd_R_stands_78 (by decide) ?_
        refine J_goto (tgt := 83) zd_R_stands_79 rfl ?_
        refine J_wid (k := 0) (n := 0) (Nat.le_of_ble_eq_true rfl) (Nat.le_of_ble_eq_true rfl) ?_
        refine J_keep [false, true, false, false, false, false, false, true, false] rfl ?_
        exact j_R_stands_83 E _ _ _ _
def f_R_stands (a0 : Int32) (a1 : Int32) (μ : Mem) : Option (LV × Mem) := nm (a0 / 189) (fun v1 => nm (irm (a0 / 27) 7) (fun v2 => nm (irm (a0 / 9) 3) (fun v3 => nm (irm (a0 / 3) 3) (fun v4 => nm (irm a0 3) (fun v5 => (if v1 < 2 then (b_R_stands_46 a1 v3 v4 v5 v1 μ) else (b_R_stands_46 a1 v3 v4 v5 (v1 + v2) μ)))))))
set_option maxRecDepth 20000 in
theorem c_R_stands (E : EV) (a0 : Int32) (a1 : Int32) (μ : Mem) : Ct E I_R_stands (rmk 1 0 0) [.inl a0, .inl a1] μ (f_R_stands a0 a1 μ) := by
  refine Ct.of (k := 7) (by decide +kernel) rfl ?_
  show J E I_R_stands (rmk 1 0 0) (QR E I_R_stands (rmk 1 0 0)) 0 0 μ 0 [some (.inl a0), some (.inl a1), none, none, none, none, none, none, none] [] (f_R_stands a0 a1 μ)
  unfold f_R_stands
  refine J_iload_n zd_R_stands_0 rfl ?_
  refine J_sipush (v := 189) zd_R_stands_1 (by decide) ?_
  refine J_idivL zd_R_stands_4 (by decide) ?_
  refine J_nm (fun v1 => ?_)
  refine J_istore_n (lv' := [some _, some _, some _, none, none, none, none, none, none]) zd_R_stands_5 (Nat.le_of_ble_eq_true rfl) rfl ?_
  refine J_iload_n zd_R_stands_6 rfl ?_
  refine J_bipush (v := 27) zd_R_stands_7 (by decide) ?_
  refine J_idivL zd_R_stands_9 (by decide) ?_
  refine J_bipush (v := 7) zd_R_stands_10 (by decide) ?_
  refine J_iremL zd_R_stands_12 (by decide) ?_
  refine J_nm (fun v2 => ?_)
  refine J_istore_n (lv' := [some _, some _, some _, some _, none, none, none, none, none]) zd_R_stands_13 (Nat.le_of_ble_eq_true rfl) rfl ?_
  refine J_iload_n zd_R_stands_14 rfl ?_
  refine J_bipush (v := 9) zd_R_stands_15 (by decide) ?_
  refine J_idivL zd_R_stands_17 (by decide) ?_
  refine J_iconst (v := 3) zd_R_stands_18 (by decide) ?_
  refine J_iremL zd_R_stands_19 (by decide) ?_
  refine J_nm (fun v3 => ?_)
  refine J_istore (lv' := [some _, some _, some _, some _, some _, none, none, none, none]) zd_R_stands_20 (Nat.le_of_ble_eq_true rfl) rfl ?_
  refine J_iload_n zd_R_stands_22 rfl ?_
  refine J_iconst (v := 3) zd_R_stands_23 (by decide) ?_
  refine J_idivL zd_R_stands_24 (by decide) ?_
  refine J_iconst (v := 3) zd_R_stands_25 (by decide) ?_
  refine J_iremL zd_R_stands_26 (by decide) ?_
  refine J_nm (fun v4 => ?_)
  refine J_istore (lv' := [some _, some _, some _, some _, some _, some _, none, none, none]) zd_R_stands_27 (Nat.le_of_ble_eq_true rfl) rfl ?_
  refine J_iload_n zd_R_stands_29 rfl ?_
  refine J_iconst (v := 3) zd_R_stands_30 (by decide) ?_
  refine J_iremL zd_R_stands_31 (by decide) ?_
  refine J_nm (fun v5 => ?_)
  refine J_istore (lv' := [some _, some _, some _, some _, some _, some _, some _, none, none]) zd_R_stands_32 (Nat.le_of_ble_eq_true rfl) rfl ?_
  refine J_iload_n zd_R_stands_34 rfl ?_
  refine J_iconst (v := 2) zd_R_stands_35 (by decide) ?_
  refine J_icmp_lt (tgt := 45) zd_R_stands_36 rfl ?_ ?_
  · refine J_iload_n zd_R_stands_45 rfl ?_
    refine J_wid (k := 0) (n := 0) (Nat.le_of_ble_eq_true rfl) (Nat.le_of_ble_eq_true rfl) ?_
    refine J_keep [false, true, false, false, true, true, true, false, false] rfl ?_
    exact j_R_stands_46 E _ _ _ _ _ _
  · refine J_iload_n zd_R_stands_39 rfl ?_
    refine J_iload_n zd_R_stands_40 rfl ?_
    refine J_iadd zd_R_stands_41 ?_
    refine J_goto (tgt := 46) zd_R_stands_42 rfl ?_
    refine J_wid (k := 0) (n := 0) (Nat.le_of_ble_eq_true rfl) (Nat.le_of_ble_eq_true rfl) ?_
    refine J_keep [false, true, false, false, true, true, true, false, false] rfl ?_
    exact j_R_stands_46 E _ _ _ _ _ _
def b_R_standing_38 (c4 : Int32 → Int32 → Mem → Option (LV × Mem)) (a0 : Nat) (a1 : Int32) (a2 : Int32) (a3 : Int32)  (μ : Mem) : Option (LV × Mem) := (c4 a2 (a3 + 1) μ)
set_option maxRecDepth 20000 in
theorem j_R_standing_38 (E : EV) (a0 : Nat) (a1 : Int32) (a2 : Int32) (a3 : Int32)  (μ : Mem) {c4 : Int32 → Int32 → Mem → Option (LV × Mem)} (h4 : ∀ (b2 : Int32) (b3 : Int32)  (μ : Mem), J E I_R_standing (rmk 2 0 0) (QR E I_R_standing (rmk 2 0 0)) 0 0 μ 4 [some (.inr a0), some (.inl a1), some (.inl b2), some (.inl b3)] [] (c4 b2 b3 μ)) : J E I_R_standing (rmk 2 0 0) (QR E I_R_standing (rmk 2 0 0)) 0 0 μ 38 [some (.inr a0), some (.inl a1), some (.inl a2), some (.inl a3)] [] (b_R_standing_38 c4 a0 a1 a2 a3 μ) := by
  unfold b_R_standing_38
  refine J_iinc (v := _ + 1) (lv' := [some _, some _, some _, some _]) zd_R_standing_38 (Nat.le_of_ble_eq_true rfl) rfl (by rfl) rfl ?_
  refine J_goto (tgt := 4) zd_R_standing_41 rfl ?_
  refine J_wid (k := 0) (n := 0) (Nat.le_of_ble_eq_true rfl) (Nat.le_of_ble_eq_true rfl) ?_
  refine J_keep [true, true, true, true] rfl ?_
  exact h4 _ _ _
def k_R_standing_4  (a0 : Nat) (a1 : Int32) : Nat → Int32 → Int32 → Mem → Option (LV × Mem)
  | 0, _, _, _ => none
  | n + 1, a2, a3, μ => gI 2 a0 1 μ (fun v1 => (if v1 < a3 then (some (.inl a2, μ)) else gR 2 a0 0 μ (fun r2 => aI r2 a3 μ (fun v3 => (if v3 = 0 then (b_R_standing_38 (k_R_standing_4 a0 a1 n) a0 a1 a2 a3 μ) else bI (f_R_stands a3 a1 μ) (fun v5 μ4 => (if v5 = 0 then (b_R_standing_38 (k_R_standing_4 a0 a1 n) a0 a1 a2 a3 μ4) else gR 2 a0 0 μ4 (fun r6 => aI r6 a3 μ4 (fun v7 => nm (a2 + v7) (fun v8 => (b_R_standing_38 (k_R_standing_4 a0 a1 n) a0 a1 v8 a3 μ4)))))))))))
set_option maxRecDepth 20000 in
theorem j_R_standing_4 (E : EV) (a0 : Nat) (a1 : Int32)  : ∀ (n : Nat) (a2 : Int32) (a3 : Int32) (μ : Mem), J E I_R_standing (rmk 2 0 0) (QR E I_R_standing (rmk 2 0 0)) 0 0 μ 4 [some (.inr a0), some (.inl a1), some (.inl a2), some (.inl a3)] [] (k_R_standing_4 a0 a1 n a2 a3 μ)
  | 0, _, _, _ => J_none
  | n + 1, a2, a3, μ => by
    show J E I_R_standing (rmk 2 0 0) (QR E I_R_standing (rmk 2 0 0)) 0 0 μ 4 [some (.inr a0), some (.inl a1), some (.inl a2), some (.inl a3)] [] (gI 2 a0 1 μ (fun v1 => (if v1 < a3 then (some (.inl a2, μ)) else gR 2 a0 0 μ (fun r2 => aI r2 a3 μ (fun v3 => (if v3 = 0 then (b_R_standing_38 (k_R_standing_4 a0 a1 n) a0 a1 a2 a3 μ) else bI (f_R_stands a3 a1 μ) (fun v5 μ4 => (if v5 = 0 then (b_R_standing_38 (k_R_standing_4 a0 a1 n) a0 a1 a2 a3 μ4) else gR 2 a0 0 μ4 (fun r6 => aI r6 a3 μ4 (fun v7 => nm (a2 + v7) (fun v8 => (b_R_standing_38 (k_R_standing_4 a0 a1 n) a0 a1 v8 a3 μ4))))))))))))
    refine J_iload_n zd_R_standing_4 rfl ?_
    refine J_aload_n zd_R_standing_5 rfl ?_
    refine J_gI zd_R_standing_6 zf_R_15 rfl (fun v1 => ?_)
    refine J_icmp_gt (tgt := 44) zd_R_standing_9 rfl ?_ ?_
    · refine J_iload_n zd_R_standing_44 rfl ?_
      exact J_iret zd_R_standing_45 rfl (Nat.le_of_ble_eq_true rfl) (Nat.le_of_ble_eq_true rfl)
    · refine J_aload_n zd_R_standing_12 rfl ?_
      refine J_gR zd_R_standing_13 zf_R_11 rfl (fun r2 => ?_)
      refine J_iload_n zd_R_standing_16 rfl ?_
      refine J_aI zd_R_standing_17 (fun v3 => ?_)
      refine J_if_eq (tgt := 38) zd_R_standing_18 rfl ?_ ?_
      · refine J_wid (k := 0) (n := 0) (Nat.le_of_ble_eq_true rfl) (Nat.le_of_ble_eq_true rfl) ?_
        refine J_keep [true, true, true, true] rfl ?_
        exact j_R_standing_38 E _ _ _ _ _ (j_R_standing_4 E a0 a1 n)
      · refine J_iload_n zd_R_standing_21 rfl ?_
        refine J_iload_n zd_R_standing_22 rfl ?_
        refine J_callSi (as := [.inl _, .inl _]) zd_R_standing_23 zm_R_stands ⟨Nat.le_of_ble_eq_true rfl, Nat.le_of_ble_eq_true rfl⟩ zw_392 zw_393 rfl (Nat.le_of_ble_eq_true rfl) ⟨Nat.le_of_ble_eq_true rfl, Nat.le_of_ble_eq_true rfl⟩ rfl rfl (c_R_stands E _ _ _) (fun v5 μ4 => ?_)
        refine J_if_eq (tgt := 38) zd_R_standing_26 rfl ?_ ?_
        · refine J_wid (k := 0) (n := 0) (Nat.le_of_ble_eq_true rfl) (Nat.le_of_ble_eq_true rfl) ?_
          refine J_keep [true, true, true, true] rfl ?_
          exact j_R_standing_38 E _ _ _ _ _ (j_R_standing_4 E a0 a1 n)
        · refine J_iload_n zd_R_standing_29 rfl ?_
          refine J_aload_n zd_R_standing_30 rfl ?_
          refine J_gR zd_R_standing_31 zf_R_11 rfl (fun r6 => ?_)
          refine J_iload_n zd_R_standing_34 rfl ?_
          refine J_aI zd_R_standing_35 (fun v7 => ?_)
          refine J_iadd zd_R_standing_36 ?_
          refine J_nm (fun v8 => ?_)
          refine J_istore_n (lv' := [some _, some _, some _, some _]) zd_R_standing_37 (Nat.le_of_ble_eq_true rfl) rfl ?_
          refine J_wid (k := 0) (n := 0) (Nat.le_of_ble_eq_true rfl) (Nat.le_of_ble_eq_true rfl) ?_
          refine J_keep [true, true, true, true] rfl ?_
          exact j_R_standing_38 E _ _ _ _ _ (j_R_standing_4 E a0 a1 n)
def f_R_standing (a0 : Nat) (a1 : Int32) (μ : Mem) : Option (LV × Mem) := (k_R_standing_4 a0 a1 120000 0 0 μ)
set_option maxRecDepth 20000 in
theorem c_R_standing (E : EV) (a0 : Nat) (a1 : Int32) (μ : Mem) : Ct E I_R_standing (rmk 2 0 0) [.inr a0, .inl a1] μ (f_R_standing a0 a1 μ) := by
  refine Ct.of (k := 2) (by decide +kernel) rfl ?_
  show J E I_R_standing (rmk 2 0 0) (QR E I_R_standing (rmk 2 0 0)) 0 0 μ 0 [some (.inr a0), some (.inl a1), none, none] [] (f_R_standing a0 a1 μ)
  unfold f_R_standing
  refine J_iconst (v := 0) zd_R_standing_0 (by decide) ?_
  refine J_istore_n (lv' := [some _, some _, some _, none]) zd_R_standing_1 (Nat.le_of_ble_eq_true rfl) rfl ?_
  refine J_iconst (v := 0) zd_R_standing_2 (by decide) ?_
  refine J_istore_n (lv' := [some _, some _, some _, some _]) zd_R_standing_3 (Nat.le_of_ble_eq_true rfl) rfl ?_
  refine J_wid (k := 0) (n := 0) (Nat.le_of_ble_eq_true rfl) (Nat.le_of_ble_eq_true rfl) ?_
  refine J_keep [true, true, true, true] rfl ?_
  exact j_R_standing_4 E _ _ _ _ _ _
def b_T_tell_54 (c12 : Int32 → Int32 → Mem → Option (LV × Mem)) (a0 : Nat) (a3 : Int32) (a4 : Int32)  (μ : Mem) : Option (LV × Mem) := (c12 a3 (a4 + 1) μ)
set_option maxRecDepth 20000 in
theorem j_T_tell_54 (E : EV) (a0 : Nat) (a3 : Int32) (a4 : Int32)  (μ : Mem) {c12 : Int32 → Int32 → Mem → Option (LV × Mem)} (h12 : ∀ (b3 : Int32) (b4 : Int32)  (μ : Mem), J E I_T_tell (rmk 1 0 0) (QR E I_T_tell (rmk 1 0 0)) 0 0 μ 12 [some (.inr a0), none, none, some (.inl b3), some (.inl b4)] [] (c12 b3 b4 μ)) : J E I_T_tell (rmk 1 0 0) (QR E I_T_tell (rmk 1 0 0)) 0 0 μ 54 [some (.inr a0), none, none, some (.inl a3), some (.inl a4)] [] (b_T_tell_54 c12 a0 a3 a4 μ) := by
  unfold b_T_tell_54
  refine J_iinc (v := _ + 1) (lv' := [some _, none, none, some _, some _]) zd_T_tell_54 (Nat.le_of_ble_eq_true rfl) rfl (by rfl) rfl ?_
  refine J_goto (tgt := 12) zd_T_tell_57 rfl ?_
  refine J_wid (k := 0) (n := 0) (Nat.le_of_ble_eq_true rfl) (Nat.le_of_ble_eq_true rfl) ?_
  refine J_keep [true, false, false, true, true] rfl ?_
  exact h12 _ _ _
def b_T_tell_46 (c12 : Int32 → Int32 → Mem → Option (LV × Mem)) (a0 : Nat) (a4 : Int32)  (μ : Mem) : Option (LV × Mem) := gR 8 a0 0 μ (fun r1 => aI r1 a4 μ (fun v2 => (b_T_tell_54 c12 a0 v2 a4 μ)))
set_option maxRecDepth 20000 in
theorem j_T_tell_46 (E : EV) (a0 : Nat) (a4 : Int32)  (μ : Mem) {c12 : Int32 → Int32 → Mem → Option (LV × Mem)} (h12 : ∀ (b3 : Int32) (b4 : Int32)  (μ : Mem), J E I_T_tell (rmk 1 0 0) (QR E I_T_tell (rmk 1 0 0)) 0 0 μ 12 [some (.inr a0), none, none, some (.inl b3), some (.inl b4)] [] (c12 b3 b4 μ)) : J E I_T_tell (rmk 1 0 0) (QR E I_T_tell (rmk 1 0 0)) 0 0 μ 46 [some (.inr a0), none, none, none, some (.inl a4)] [] (b_T_tell_46 c12 a0 a4 μ) := by
  unfold b_T_tell_46
  refine J_aload_n zd_T_tell_46 rfl ?_
  refine J_gR zd_T_tell_47 zf_T_9 rfl (fun r1 => ?_)
  refine J_iload zd_T_tell_50 rfl ?_
  refine J_aI zd_T_tell_52 (fun v2 => ?_)
  refine J_istore_n (lv' := [some _, none, none, some _, some _]) zd_T_tell_53 (Nat.le_of_ble_eq_true rfl) rfl ?_
  refine J_wid (k := 0) (n := 0) (Nat.le_of_ble_eq_true rfl) (Nat.le_of_ble_eq_true rfl) ?_
  refine J_keep [true, false, false, true, true] rfl ?_
  exact j_T_tell_54 E _ _ _ _ h12
def k_T_tell_12 (c60 : Nat → Int32 → Mem → Option (LV × Mem)) (a0 : Nat) : Nat → Int32 → Int32 → Mem → Option (LV × Mem)
  | 0, _, _, _ => none
  | n + 1, a3, a4, μ => (if 25 ≤ a4 then (c60 a0 a3 μ) else gR 8 a0 0 μ (fun r3 => aI r3 a4 μ (fun v4 => (if v4 = (-1) then (b_T_tell_54 (k_T_tell_12 c60 a0 n) a0 a3 a4 μ) else (if a3 = (-1) then (b_T_tell_46 (k_T_tell_12 c60 a0 n) a0 a4 μ) else gR 8 a0 0 μ (fun r5 => aI r5 a4 μ (fun v6 => (if a3 ≤ v6 then (b_T_tell_54 (k_T_tell_12 c60 a0 n) a0 a3 a4 μ) else (b_T_tell_46 (k_T_tell_12 c60 a0 n) a0 a4 μ)))))))))
set_option maxRecDepth 20000 in
theorem j_T_tell_12 (E : EV) (a0 : Nat) {c60 : Nat → Int32 → Mem → Option (LV × Mem)} (h60 : ∀ (b0 : Nat) (b3 : Int32)  (μ : Mem), J E I_T_tell (rmk 1 0 0) (QR E I_T_tell (rmk 1 0 0)) 0 0 μ 60 [some (.inr b0), none, none, some (.inl b3), none] [] (c60 b0 b3 μ)) : ∀ (n : Nat) (a3 : Int32) (a4 : Int32) (μ : Mem), J E I_T_tell (rmk 1 0 0) (QR E I_T_tell (rmk 1 0 0)) 0 0 μ 12 [some (.inr a0), none, none, some (.inl a3), some (.inl a4)] [] (k_T_tell_12 c60 a0 n a3 a4 μ)
  | 0, _, _, _ => J_none
  | n + 1, a3, a4, μ => by
    show J E I_T_tell (rmk 1 0 0) (QR E I_T_tell (rmk 1 0 0)) 0 0 μ 12 [some (.inr a0), none, none, some (.inl a3), some (.inl a4)] [] ((if 25 ≤ a4 then (c60 a0 a3 μ) else gR 8 a0 0 μ (fun r3 => aI r3 a4 μ (fun v4 => (if v4 = (-1) then (b_T_tell_54 (k_T_tell_12 c60 a0 n) a0 a3 a4 μ) else (if a3 = (-1) then (b_T_tell_46 (k_T_tell_12 c60 a0 n) a0 a4 μ) else gR 8 a0 0 μ (fun r5 => aI r5 a4 μ (fun v6 => (if a3 ≤ v6 then (b_T_tell_54 (k_T_tell_12 c60 a0 n) a0 a3 a4 μ) else (b_T_tell_46 (k_T_tell_12 c60 a0 n) a0 a4 μ))))))))))
    refine J_iload zd_T_tell_12 rfl ?_
    refine J_bipush (v := 25) zd_T_tell_14 (by decide) ?_
    refine J_icmp_ge (tgt := 60) zd_T_tell_16 rfl ?_ ?_
    · refine J_wid (k := 0) (n := 0) (Nat.le_of_ble_eq_true rfl) (Nat.le_of_ble_eq_true rfl) ?_
      refine J_keep [true, false, false, true, false] rfl ?_
      exact h60 _ _ _
    · refine J_aload_n zd_T_tell_19 rfl ?_
      refine J_gR zd_T_tell_20 zf_T_9 rfl (fun r3 => ?_)
      refine J_iload zd_T_tell_23 rfl ?_
      refine J_aI zd_T_tell_25 (fun v4 => ?_)
      refine J_iconst (v := (-1)) zd_T_tell_26 (by decide) ?_
      refine J_icmp_eq (tgt := 54) zd_T_tell_27 rfl ?_ ?_
      · refine J_wid (k := 0) (n := 0) (Nat.le_of_ble_eq_true rfl) (Nat.le_of_ble_eq_true rfl) ?_
        refine J_keep [true, false, false, true, true] rfl ?_
        exact j_T_tell_54 E _ _ _ _ (j_T_tell_12 E a0 h60 n)
      · refine J_iload_n zd_T_tell_30 rfl ?_
        refine J_iconst (v := (-1)) zd_T_tell_31 (by decide) ?_
        refine J_icmp_eq (tgt := 46) zd_T_tell_32 rfl ?_ ?_
        · refine J_wid (k := 0) (n := 0) (Nat.le_of_ble_eq_true rfl) (Nat.le_of_ble_eq_true rfl) ?_
          refine J_keep [true, false, false, false, true] rfl ?_
          exact j_T_tell_46 E _ _ _ (j_T_tell_12 E a0 h60 n)
        · refine J_aload_n zd_T_tell_35 rfl ?_
          refine J_gR zd_T_tell_36 zf_T_9 rfl (fun r5 => ?_)
          refine J_iload zd_T_tell_39 rfl ?_
          refine J_aI zd_T_tell_41 (fun v6 => ?_)
          refine J_iload_n zd_T_tell_42 rfl ?_
          refine J_icmp_ge (tgt := 54) zd_T_tell_43 rfl ?_ ?_
          · refine J_wid (k := 0) (n := 0) (Nat.le_of_ble_eq_true rfl) (Nat.le_of_ble_eq_true rfl) ?_
            refine J_keep [true, false, false, true, true] rfl ?_
            exact j_T_tell_54 E _ _ _ _ (j_T_tell_12 E a0 h60 n)
          · refine J_wid (k := 0) (n := 0) (Nat.le_of_ble_eq_true rfl) (Nat.le_of_ble_eq_true rfl) ?_
            refine J_keep [true, false, false, false, true] rfl ?_
            exact j_T_tell_46 E _ _ _ (j_T_tell_12 E a0 h60 n)
def b_T_tell_60  (a0 : Nat) (a3 : Int32)  (μ : Mem) : Option (LV × Mem) := (if a3 = (-1) then pI 8 a0 1 0 μ (fun μ8 => (some (.inl 0, μ8))) else pI 8 a0 1 a3 μ (fun μ7 => (some (.inl 0, μ7))))
set_option maxRecDepth 20000 in
theorem j_T_tell_60 (E : EV) (a0 : Nat) (a3 : Int32)  (μ : Mem)  : J E I_T_tell (rmk 1 0 0) (QR E I_T_tell (rmk 1 0 0)) 0 0 μ 60 [some (.inr a0), none, none, some (.inl a3), none] [] (b_T_tell_60 a0 a3 μ) := by
  unfold b_T_tell_60
  refine J_aload_n zd_T_tell_60 rfl ?_
  refine J_iload_n zd_T_tell_61 rfl ?_
  refine J_iconst (v := (-1)) zd_T_tell_62 (by decide) ?_
  refine J_icmp_ne (tgt := 70) zd_T_tell_63 rfl ?_ ?_
  · refine J_iload_n zd_T_tell_70 rfl ?_
    refine J_pI zd_T_tell_71 zf_T_13 ⟨zt_T, zn_T, Or.inl rfl⟩ rfl rfl (fun μ7 => ?_)
    exact J_vret zd_T_tell_74 rfl (Nat.le_of_ble_eq_true rfl) (Nat.le_of_ble_eq_true rfl)
  · refine J_iconst (v := 0) zd_T_tell_66 (by decide) ?_
    refine J_goto (tgt := 71) zd_T_tell_67 rfl ?_
    refine J_pI zd_T_tell_71 zf_T_13 ⟨zt_T, zn_T, Or.inl rfl⟩ rfl rfl (fun μ8 => ?_)
    exact J_vret zd_T_tell_74 rfl (Nat.le_of_ble_eq_true rfl) (Nat.le_of_ble_eq_true rfl)
def f_T_tell (a0 : Nat) (a1 : Int32) (a2 : Int32) (μ : Mem) : Option (LV × Mem) := gR 8 a0 0 μ (fun r9 => aS r9 a1 a2 μ (fun μ10 => (k_T_tell_12 (fun b0 b3 m_ => b_T_tell_60 b0 b3 m_) a0 120000 (-1) 0 μ10)))
set_option maxRecDepth 20000 in
theorem c_T_tell (E : EV) (a0 : Nat) (a1 : Int32) (a2 : Int32) (μ : Mem) : Ct E I_T_tell (rmk 1 0 0) [.inr a0, .inl a1, .inl a2] μ (f_T_tell a0 a1 a2 μ) := by
  refine Ct.of (k := 2) (by decide +kernel) rfl ?_
  show J E I_T_tell (rmk 1 0 0) (QR E I_T_tell (rmk 1 0 0)) 0 0 μ 0 [some (.inr a0), some (.inl a1), some (.inl a2), none, none] [] (f_T_tell a0 a1 a2 μ)
  unfold f_T_tell
  refine J_aload_n zd_T_tell_0 rfl ?_
  refine J_gR zd_T_tell_1 zf_T_9 rfl (fun r9 => ?_)
  refine J_iload_n zd_T_tell_4 rfl ?_
  refine J_iload_n zd_T_tell_5 rfl ?_
  refine J_aS zd_T_tell_6 (fun μ10 => ?_)
  refine J_iconst (v := (-1)) zd_T_tell_7 (by decide) ?_
  refine J_istore_n (lv' := [some _, some _, some _, some _, none]) zd_T_tell_8 (Nat.le_of_ble_eq_true rfl) rfl ?_
  refine J_iconst (v := 0) zd_T_tell_9 (by decide) ?_
  refine J_istore (lv' := [some _, some _, some _, some _, some _]) zd_T_tell_10 (Nat.le_of_ble_eq_true rfl) rfl ?_
  refine J_wid (k := 0) (n := 0) (Nat.le_of_ble_eq_true rfl) (Nat.le_of_ble_eq_true rfl) ?_
  refine J_keep [true, false, false, true, true] rfl ?_
  exact j_T_tell_12 E _ (fun b0 b3 m_ => j_T_tell_60 E b0 b3 m_) _ _ _ _
def f_T_feet (a0 : Nat) (a1 : Int32) (μ : Mem) : Option (LV × Mem) := gR 8 a0 0 μ (fun r1 => bI (f_MA_floorMod a1 25 μ) (fun v3 μ2 => aI r1 v3 μ2 (fun v4 => (if v4 = (-1) then gI 8 a0 1 μ2 (fun v5 => (some (.inl v5, μ2))) else (some (.inl v4, μ2))))))
set_option maxRecDepth 20000 in
theorem c_T_feet (E : EV) (a0 : Nat) (a1 : Int32) (μ : Mem) : Ct E I_T_feet (rmk 2 0 0) [.inr a0, .inl a1] μ (f_T_feet a0 a1 μ) := by
  refine Ct.of (k := 1) (by decide +kernel) rfl ?_
  show J E I_T_feet (rmk 2 0 0) (QR E I_T_feet (rmk 2 0 0)) 0 0 μ 0 [some (.inr a0), some (.inl a1), none] [] (f_T_feet a0 a1 μ)
  unfold f_T_feet
  refine J_aload_n zd_T_feet_0 rfl ?_
  refine J_gR zd_T_feet_1 zf_T_9 rfl (fun r1 => ?_)
  refine J_iload_n zd_T_feet_4 rfl ?_
  refine J_bipush (v := 25) zd_T_feet_5 (by decide) ?_
  refine J_callSi (as := [.inl _, .inl _]) zd_T_feet_7 zm_MA_floorMod ⟨Nat.le_of_ble_eq_true rfl, Nat.le_of_ble_eq_true rfl⟩ zw_420 zw_421 rfl (Nat.le_of_ble_eq_true rfl) ⟨Nat.le_of_ble_eq_true rfl, Nat.le_of_ble_eq_true rfl⟩ rfl rfl (c_MA_floorMod E _ _ _) (fun v3 μ2 => ?_)
  refine J_aI zd_T_feet_10 (fun v4 => ?_)
  refine J_istore_n (lv' := [some _, some _, some _]) zd_T_feet_11 (Nat.le_of_ble_eq_true rfl) rfl ?_
  refine J_iload_n zd_T_feet_12 rfl ?_
  refine J_iconst (v := (-1)) zd_T_feet_13 (by decide) ?_
  refine J_icmp_ne (tgt := 24) zd_T_feet_14 rfl ?_ ?_
  · refine J_iload_n zd_T_feet_24 rfl ?_
    exact J_iret zd_T_feet_25 rfl (Nat.le_of_ble_eq_true rfl) (Nat.le_of_ble_eq_true rfl)
  · refine J_aload_n zd_T_feet_17 rfl ?_
    refine J_gI zd_T_feet_18 zf_T_13 rfl (fun v5 => ?_)
    refine J_goto (tgt := 25) zd_T_feet_21 rfl ?_
    exact J_iret zd_T_feet_25 rfl (Nat.le_of_ble_eq_true rfl) (Nat.le_of_ble_eq_true rfl)
def f_B_init (a0 : Nat) (a1 : Int32) (a2 : Int32) (μ : Mem) : Option (LV × Mem) := cN a0 (nO μ (0, 5) (fun h1 μ2 => pR 0 a0 1 h1 μ2 (fun μ3 => pI 0 a0 3 0 μ3 (fun μ4 => pI 0 a0 2 a1 μ4 (fun μ5 => pI 0 a0 0 a2 μ5 (fun μ6 => (some (.inl 0, μ6))))))))
set_option maxRecDepth 20000 in
theorem c_B_init (E : EV) (a0 : Nat) (a1 : Int32) (a2 : Int32) (μ : Mem) : Ct E I_B_init (rmk 1 1 5) [.inr a0, .inl a1, .inl a2] μ (f_B_init a0 a1 a2 μ) := by
  refine Ct.of (k := 0) (by decide +kernel) rfl ?_
  show J E I_B_init (rmk 1 1 5) (QR E I_B_init (rmk 1 1 5)) 0 0 μ 0 [some (.inr a0), some (.inl a1), some (.inl a2)] [] (f_B_init a0 a1 a2 μ)
  unfold f_B_init
  refine J_aload_n zd_B_init_0 rfl ?_
  refine J_obj zd_B_init_1 zw_437 zw_27 zw_28 (Nat.le_of_ble_eq_true rfl) (Nat.le_of_ble_eq_true rfl) (Nat.le_of_ble_eq_true rfl) ?_
  refine J_aload_n zd_B_init_4 rfl ?_
  refine J_iconst (v := 5) zd_B_init_5 (by decide) ?_
  refine J_newa zd_B_init_6 zw_55 (by decide) (N := 5) (by decide) (by decide) (Nat.le_of_ble_eq_true rfl) (Nat.le_of_ble_eq_true rfl) (fun h1 μ2 => ?_)
  refine J_pR zd_B_init_8 zf_B_9 ⟨zt_B, zn_B, Or.inr ⟨rfl, rfl, rfl⟩⟩ (Or.inr ⟨_, rfl⟩) rfl (fun μ3 => ?_)
  refine J_aload_n zd_B_init_11 rfl ?_
  refine J_iconst (v := 0) zd_B_init_12 (by decide) ?_
  refine J_pI zd_B_init_13 zf_B_15 ⟨zt_B, zn_B, Or.inl rfl⟩ rfl rfl (fun μ4 => ?_)
  refine J_aload_n zd_B_init_16 rfl ?_
  refine J_iload_n zd_B_init_17 rfl ?_
  refine J_pI zd_B_init_18 zf_B_19 ⟨zt_B, zn_B, Or.inl rfl⟩ rfl rfl (fun μ5 => ?_)
  refine J_aload_n zd_B_init_21 rfl ?_
  refine J_iload_n zd_B_init_22 rfl ?_
  refine J_pI zd_B_init_23 zf_B_22 ⟨zt_B, zn_B, Or.inr ⟨rfl, rfl, rfl⟩⟩ rfl rfl (fun μ6 => ?_)
  exact J_vret zd_B_init_26 rfl (Nat.le_of_ble_eq_true rfl) (Nat.le_of_ble_eq_true rfl)
def f_B_isAway (a0 : Nat) (a1 : Int32) (μ : Mem) : Option (LV × Mem) := gI 0 a0 3 μ (fun v1 => (if v1 ≤ a1 then (some (.inl 0, μ)) else (some (.inl 1, μ))))
set_option maxRecDepth 20000 in
theorem c_B_isAway (E : EV) (a0 : Nat) (a1 : Int32) (μ : Mem) : Ct E I_B_isAway (rmk 1 0 0) [.inr a0, .inl a1] μ (f_B_isAway a0 a1 μ) := by
  refine Ct.of (k := 0) (by decide +kernel) rfl ?_
  show J E I_B_isAway (rmk 1 0 0) (QR E I_B_isAway (rmk 1 0 0)) 0 0 μ 0 [some (.inr a0), some (.inl a1)] [] (f_B_isAway a0 a1 μ)
  unfold f_B_isAway
  refine J_iload_n zd_B_isAway_0 rfl ?_
  refine J_aload_n zd_B_isAway_1 rfl ?_
  refine J_gI zd_B_isAway_2 zf_B_15 rfl (fun v1 => ?_)
  refine J_icmp_ge (tgt := 12) zd_B_isAway_5 rfl ?_ ?_
  · refine J_iconst (v := 0) zd_B_isAway_12 (by decide) ?_
    exact J_zret zd_B_isAway_13 rfl rfl (Nat.le_of_ble_eq_true rfl) (Nat.le_of_ble_eq_true rfl)
  · refine J_iconst (v := 1) zd_B_isAway_8 (by decide) ?_
    refine J_goto (tgt := 13) zd_B_isAway_9 rfl ?_
    exact J_zret zd_B_isAway_13 rfl rfl (Nat.le_of_ble_eq_true rfl) (Nat.le_of_ble_eq_true rfl)
def f_C_init (a0 : Nat) (a1 : Int32) (a2 : Int32) (a3 : Int32) (μ : Mem) : Option (LV × Mem) := cN a0 (pI 1 a0 0 a1 μ (fun μ1 => pI 1 a0 1 a2 μ1 (fun μ2 => pI 1 a0 2 a3 μ2 (fun μ3 => (some (.inl 0, μ3))))))
set_option maxRecDepth 20000 in
theorem c_C_init (E : EV) (a0 : Nat) (a1 : Int32) (a2 : Int32) (a3 : Int32) (μ : Mem) : Ct E I_C_init (rmk 1 0 0) [.inr a0, .inl a1, .inl a2, .inl a3] μ (f_C_init a0 a1 a2 a3 μ) := by
  refine Ct.of (k := 0) (by decide +kernel) rfl ?_
  show J E I_C_init (rmk 1 0 0) (QR E I_C_init (rmk 1 0 0)) 0 0 μ 0 [some (.inr a0), some (.inl a1), some (.inl a2), some (.inl a3)] [] (f_C_init a0 a1 a2 a3 μ)
  unfold f_C_init
  refine J_aload_n zd_C_init_0 rfl ?_
  refine J_obj zd_C_init_1 zw_483 zw_27 zw_28 (Nat.le_of_ble_eq_true rfl) (Nat.le_of_ble_eq_true rfl) (Nat.le_of_ble_eq_true rfl) ?_
  refine J_aload_n zd_C_init_4 rfl ?_
  refine J_iload_n zd_C_init_5 rfl ?_
  refine J_pI zd_C_init_6 zf_C_7 ⟨zt_C, zn_C, Or.inr ⟨rfl, rfl, rfl⟩⟩ rfl rfl (fun μ1 => ?_)
  refine J_aload_n zd_C_init_9 rfl ?_
  refine J_iload_n zd_C_init_10 rfl ?_
  refine J_pI zd_C_init_11 zf_C_13 ⟨zt_C, zn_C, Or.inr ⟨rfl, rfl, rfl⟩⟩ rfl rfl (fun μ2 => ?_)
  refine J_aload_n zd_C_init_14 rfl ?_
  refine J_iload_n zd_C_init_15 rfl ?_
  refine J_pI zd_C_init_16 zf_C_16 ⟨zt_C, zn_C, Or.inr ⟨rfl, rfl, rfl⟩⟩ rfl rfl (fun μ3 => ?_)
  exact J_vret zd_C_init_19 rfl (Nat.le_of_ble_eq_true rfl) (Nat.le_of_ble_eq_true rfl)
def f_P_clear (a0 : Nat) (μ : Mem) : Option (LV × Mem) := pI 5 a0 0 (-9) μ (fun μ1 => pI 5 a0 1 (-9) μ1 (fun μ2 => pI 5 a0 2 (-9) μ2 (fun μ3 => pI 5 a0 3 0 μ3 (fun μ4 => (some (.inl 0, μ4))))))
set_option maxRecDepth 20000 in
theorem c_P_clear (E : EV) (a0 : Nat) (μ : Mem) : Ct E I_P_clear (rmk 1 0 0) [.inr a0] μ (f_P_clear a0 μ) := by
  refine Ct.of (k := 0) (by decide +kernel) rfl ?_
  show J E I_P_clear (rmk 1 0 0) (QR E I_P_clear (rmk 1 0 0)) 0 0 μ 0 [some (.inr a0)] [] (f_P_clear a0 μ)
  unfold f_P_clear
  refine J_aload_n zd_P_clear_0 rfl ?_
  refine J_bipush (v := (-9)) zd_P_clear_1 (by decide) ?_
  refine J_pI zd_P_clear_3 zf_P_9 ⟨zt_P, zn_P, Or.inl rfl⟩ rfl rfl (fun μ1 => ?_)
  refine J_aload_n zd_P_clear_6 rfl ?_
  refine J_bipush (v := (-9)) zd_P_clear_7 (by decide) ?_
  refine J_pI zd_P_clear_9 zf_P_15 ⟨zt_P, zn_P, Or.inl rfl⟩ rfl rfl (fun μ2 => ?_)
  refine J_aload_n zd_P_clear_12 rfl ?_
  refine J_bipush (v := (-9)) zd_P_clear_13 (by decide) ?_
  refine J_pI zd_P_clear_15 zf_P_18 ⟨zt_P, zn_P, Or.inl rfl⟩ rfl rfl (fun μ3 => ?_)
  refine J_aload_n zd_P_clear_18 rfl ?_
  refine J_iconst (v := 0) zd_P_clear_19 (by decide) ?_
  refine J_pI zd_P_clear_20 zf_P_21 ⟨zt_P, zn_P, Or.inl rfl⟩ rfl rfl (fun μ4 => ?_)
  exact J_vret zd_P_clear_23 rfl (Nat.le_of_ble_eq_true rfl) (Nat.le_of_ble_eq_true rfl)
def b_P_offer_63  (a0 : Nat) (a1 : Int32) (a3 : Int32) (a5 : Int32) (a6 : Int32)  (μ : Mem) : Option (LV × Mem) := pI 5 a0 0 a5 μ (fun μ1 => pI 5 a0 3 a6 μ1 (fun μ2 => pI 5 a0 1 a1 μ2 (fun μ3 => pI 5 a0 2 a3 μ3 (fun μ4 => (some (.inl 0, μ4))))))
set_option maxRecDepth 20000 in
theorem j_P_offer_63 (E : EV) (a0 : Nat) (a1 : Int32) (a3 : Int32) (a5 : Int32) (a6 : Int32)  (μ : Mem)  : J E I_P_offer (rmk 2 0 0) (QR E I_P_offer (rmk 2 0 0)) 0 0 μ 63 [some (.inr a0), some (.inl a1), none, some (.inl a3), none, some (.inl a5), some (.inl a6), none] [] (b_P_offer_63 a0 a1 a3 a5 a6 μ) := by
  unfold b_P_offer_63
  refine J_aload_n zd_P_offer_63 rfl ?_
  refine J_iload zd_P_offer_64 rfl ?_
  refine J_pI zd_P_offer_66 zf_P_9 ⟨zt_P, zn_P, Or.inl rfl⟩ rfl rfl (fun μ1 => ?_)
  refine J_aload_n zd_P_offer_69 rfl ?_
  refine J_iload zd_P_offer_70 rfl ?_
  refine J_pI zd_P_offer_72 zf_P_21 ⟨zt_P, zn_P, Or.inl rfl⟩ rfl rfl (fun μ2 => ?_)
  refine J_aload_n zd_P_offer_75 rfl ?_
  refine J_iload_n zd_P_offer_76 rfl ?_
  refine J_pI zd_P_offer_77 zf_P_15 ⟨zt_P, zn_P, Or.inl rfl⟩ rfl rfl (fun μ3 => ?_)
  refine J_aload_n zd_P_offer_80 rfl ?_
  refine J_iload_n zd_P_offer_81 rfl ?_
  refine J_pI zd_P_offer_82 zf_P_18 ⟨zt_P, zn_P, Or.inl rfl⟩ rfl rfl (fun μ4 => ?_)
  exact J_vret zd_P_offer_85 rfl (Nat.le_of_ble_eq_true rfl) (Nat.le_of_ble_eq_true rfl)
def b_P_offer_46  (a0 : Nat) (a1 : Int32) (a3 : Int32) (a5 : Int32) (a6 : Int32) (s0 : Int32) (μ : Mem) : Option (LV × Mem) := gI 5 a0 0 μ (fun v5 => (if v5 = (-9) then (b_P_offer_63 a0 a1 a3 a5 a6 μ) else (if s0 = 0 then (b_P_offer_63 a0 a1 a3 a5 a6 μ) else (some (.inl 0, μ)))))
set_option maxRecDepth 20000 in
theorem j_P_offer_46 (E : EV) (a0 : Nat) (a1 : Int32) (a3 : Int32) (a5 : Int32) (a6 : Int32) (s0 : Int32) (μ : Mem)  : J E I_P_offer (rmk 2 0 0) (QR E I_P_offer (rmk 2 0 0)) 0 0 μ 46 [some (.inr a0), some (.inl a1), none, some (.inl a3), none, some (.inl a5), some (.inl a6), none] [.inl s0] (b_P_offer_46 a0 a1 a3 a5 a6 s0 μ) := by
  unfold b_P_offer_46
  refine J_istore (lv' := [some _, some _, none, some _, none, some _, some _, some _]) zd_P_offer_46 (Nat.le_of_ble_eq_true rfl) rfl ?_
  refine J_aload_n zd_P_offer_48 rfl ?_
  refine J_gI zd_P_offer_49 zf_P_9 rfl (fun v5 => ?_)
  refine J_bipush (v := (-9)) zd_P_offer_52 (by decide) ?_
  refine J_icmp_eq (tgt := 63) zd_P_offer_54 rfl ?_ ?_
  · refine J_wid (k := 0) (n := 0) (Nat.le_of_ble_eq_true rfl) (Nat.le_of_ble_eq_true rfl) ?_
    refine J_keep [true, true, false, true, false, true, true, false] rfl ?_
    exact j_P_offer_63 E _ _ _ _ _ _
  · refine J_iload zd_P_offer_57 rfl ?_
    refine J_if_eq (tgt := 63) zd_P_offer_59 rfl ?_ ?_
    · refine J_wid (k := 0) (n := 0) (Nat.le_of_ble_eq_true rfl) (Nat.le_of_ble_eq_true rfl) ?_
      refine J_keep [true, true, false, true, false, true, true, false] rfl ?_
      exact j_P_offer_63 E _ _ _ _ _ _
    · exact J_vret zd_P_offer_62 rfl (Nat.le_of_ble_eq_true rfl) (Nat.le_of_ble_eq_true rfl)
def b_P_offer_41  (a0 : Nat) (a1 : Int32) (a3 : Int32) (a5 : Int32) (a6 : Int32)  (μ : Mem) : Option (LV × Mem) := (b_P_offer_46 a0 a1 a3 a5 a6 1 μ)
set_option maxRecDepth 20000 in
theorem j_P_offer_41 (E : EV) (a0 : Nat) (a1 : Int32) (a3 : Int32) (a5 : Int32) (a6 : Int32)  (μ : Mem)  : J E I_P_offer (rmk 2 0 0) (QR E I_P_offer (rmk 2 0 0)) 0 0 μ 41 [some (.inr a0), some (.inl a1), none, some (.inl a3), none, some (.inl a5), some (.inl a6), none] [] (b_P_offer_41 a0 a1 a3 a5 a6 μ) := by
  unfold b_P_offer_41
  refine J_iconst (v := 1) zd_P_offer_41 (by decide) ?_
  refine J_goto (tgt := 46) zd_P_offer_42 rfl ?_
  refine J_wid (k := 0) (n := 0) (Nat.le_of_ble_eq_true rfl) (Nat.le_of_ble_eq_true rfl) ?_
  refine J_keep [true, true, false, true, false, true, true, false] rfl ?_
  exact j_P_offer_46 E _ _ _ _ _ _ _
def b_P_offer_45  (a0 : Nat) (a1 : Int32) (a3 : Int32) (a5 : Int32) (a6 : Int32)  (μ : Mem) : Option (LV × Mem) := (b_P_offer_46 a0 a1 a3 a5 a6 0 μ)
set_option maxRecDepth 20000 in
theorem j_P_offer_45 (E : EV) (a0 : Nat) (a1 : Int32) (a3 : Int32) (a5 : Int32) (a6 : Int32)  (μ : Mem)  : J E I_P_offer (rmk 2 0 0) (QR E I_P_offer (rmk 2 0 0)) 0 0 μ 45 [some (.inr a0), some (.inl a1), none, some (.inl a3), none, some (.inl a5), some (.inl a6), none] [] (b_P_offer_45 a0 a1 a3 a5 a6 μ) := by
  unfold b_P_offer_45
  refine J_iconst (v := 0) zd_P_offer_45 (by decide) ?_
  refine J_wid (k := 0) (n := 0) (Nat.le_of_ble_eq_true rfl) (Nat.le_of_ble_eq_true rfl) ?_
  refine J_keep [true, true, false, true, false, true, true, false] rfl ?_
  exact j_P_offer_46 E _ _ _ _ _ _ _
def f_P_offer (a0 : Nat) (a1 : Int32) (a2 : Int32) (a3 : Int32) (a4 : Int32) (μ : Mem) : Option (LV × Mem) := bI (f_MA_max a2 a4 μ) (fun v7 μ6 => nm (a2 + a4) (fun v8 => gI 5 a0 0 μ6 (fun v9 => (if v9 < v7 then (b_P_offer_41 a0 a1 a3 v7 v8 μ6) else gI 5 a0 0 μ6 (fun v10 => (if v7 = v10 then gI 5 a0 3 μ6 (fun v11 => (if v8 < v11 then (b_P_offer_45 a0 a1 a3 v7 v8 μ6) else (b_P_offer_41 a0 a1 a3 v7 v8 μ6))) else (b_P_offer_45 a0 a1 a3 v7 v8 μ6)))))))
set_option maxRecDepth 20000 in
theorem c_P_offer (E : EV) (a0 : Nat) (a1 : Int32) (a2 : Int32) (a3 : Int32) (a4 : Int32) (μ : Mem) : Ct E I_P_offer (rmk 2 0 0) [.inr a0, .inl a1, .inl a2, .inl a3, .inl a4] μ (f_P_offer a0 a1 a2 a3 a4 μ) := by
  refine Ct.of (k := 3) (by decide +kernel) rfl ?_
  show J E I_P_offer (rmk 2 0 0) (QR E I_P_offer (rmk 2 0 0)) 0 0 μ 0 [some (.inr a0), some (.inl a1), some (.inl a2), some (.inl a3), some (.inl a4), none, none, none] [] (f_P_offer a0 a1 a2 a3 a4 μ)
  unfold f_P_offer
  refine J_iload_n zd_P_offer_0 rfl ?_
  refine J_iload zd_P_offer_1 rfl ?_
  refine J_callSi (as := [.inl _, .inl _]) zd_P_offer_3 zm_MA_max ⟨Nat.le_of_ble_eq_true rfl, Nat.le_of_ble_eq_true rfl⟩ zw_548 zw_280 rfl (Nat.le_of_ble_eq_true rfl) ⟨Nat.le_of_ble_eq_true rfl, Nat.le_of_ble_eq_true rfl⟩ rfl rfl (c_MA_max E _ _ _) (fun v7 μ6 => ?_)
  refine J_istore (lv' := [some _, some _, some _, some _, some _, some _, none, none]) zd_P_offer_6 (Nat.le_of_ble_eq_true rfl) rfl ?_
  refine J_iload_n zd_P_offer_8 rfl ?_
  refine J_iload zd_P_offer_9 rfl ?_
  refine J_iadd zd_P_offer_11 ?_
  refine J_nm (fun v8 => ?_)
  refine J_istore (lv' := [some _, some _, some _, some _, some _, some _, some _, none]) zd_P_offer_12 (Nat.le_of_ble_eq_true rfl) rfl ?_
  refine J_iload zd_P_offer_14 rfl ?_
  refine J_aload_n zd_P_offer_16 rfl ?_
  refine J_gI zd_P_offer_17 zf_P_9 rfl (fun v9 => ?_)
  refine J_icmp_gt (tgt := 41) zd_P_offer_20 rfl ?_ ?_
  · refine J_wid (k := 0) (n := 0) (Nat.le_of_ble_eq_true rfl) (Nat.le_of_ble_eq_true rfl) ?_
    refine J_keep [true, true, false, true, false, true, true, false] rfl ?_
    exact j_P_offer_41 E _ _ _ _ _ _
  · refine J_iload zd_P_offer_23 rfl ?_
    refine J_aload_n zd_P_offer_25 rfl ?_
    refine J_gI zd_P_offer_26 zf_P_9 rfl (fun v10 => ?_)
    refine J_icmp_ne (tgt := 45) zd_P_offer_29 rfl ?_ ?_
    · refine J_wid (k := 0) (n := 0) (Nat.le_of_ble_eq_true rfl) (Nat.le_of_ble_eq_true rfl) ?_
      refine J_keep [true, true, false, true, false, true, true, false] rfl ?_
      exact j_P_offer_45 E _ _ _ _ _ _
    · refine J_iload zd_P_offer_32 rfl ?_
      refine J_aload_n zd_P_offer_34 rfl ?_
      refine J_gI zd_P_offer_35 zf_P_21 rfl (fun v11 => ?_)
      refine J_icmp_lt (tgt := 45) zd_P_offer_38 rfl ?_ ?_
      · refine J_wid (k := 0) (n := 0) (Nat.le_of_ble_eq_true rfl) (Nat.le_of_ble_eq_true rfl) ?_
        refine J_keep [true, true, false, true, false, true, true, false] rfl ?_
        exact j_P_offer_45 E _ _ _ _ _ _
      · refine J_wid (k := 0) (n := 0) (Nat.le_of_ble_eq_true rfl) (Nat.le_of_ble_eq_true rfl) ?_
        refine J_keep [true, true, false, true, false, true, true, false] rfl ?_
        exact j_P_offer_41 E _ _ _ _ _ _
def f_U_init (a0 : Nat) (a1 : Int32) (a2 : Int32) (a3 : Int32) (a4 : Int32) (a5 : Int32) (μ : Mem) : Option (LV × Mem) := cN a0 (pI 4 a0 0 a1 μ (fun μ1 => pI 4 a0 1 a2 μ1 (fun μ2 => pI 4 a0 2 a3 μ2 (fun μ3 => pI 4 a0 3 a4 μ3 (fun μ4 => pI 4 a0 4 a5 μ4 (fun μ5 => (some (.inl 0, μ5))))))))
set_option maxRecDepth 20000 in
theorem c_U_init (E : EV) (a0 : Nat) (a1 : Int32) (a2 : Int32) (a3 : Int32) (a4 : Int32) (a5 : Int32) (μ : Mem) : Ct E I_U_init (rmk 1 0 0) [.inr a0, .inl a1, .inl a2, .inl a3, .inl a4, .inl a5] μ (f_U_init a0 a1 a2 a3 a4 a5 μ) := by
  refine Ct.of (k := 0) (by decide +kernel) rfl ?_
  show J E I_U_init (rmk 1 0 0) (QR E I_U_init (rmk 1 0 0)) 0 0 μ 0 [some (.inr a0), some (.inl a1), some (.inl a2), some (.inl a3), some (.inl a4), some (.inl a5)] [] (f_U_init a0 a1 a2 a3 a4 a5 μ)
  unfold f_U_init
  refine J_aload_n zd_U_init_0 rfl ?_
  refine J_obj zd_U_init_1 zw_558 zw_27 zw_28 (Nat.le_of_ble_eq_true rfl) (Nat.le_of_ble_eq_true rfl) (Nat.le_of_ble_eq_true rfl) ?_
  refine J_aload_n zd_U_init_4 rfl ?_
  refine J_iload_n zd_U_init_5 rfl ?_
  refine J_pI zd_U_init_6 zf_U_7 ⟨zt_U, zn_U, Or.inr ⟨rfl, rfl, rfl⟩⟩ rfl rfl (fun μ1 => ?_)
  refine J_aload_n zd_U_init_9 rfl ?_
  refine J_iload_n zd_U_init_10 rfl ?_
  refine J_pI zd_U_init_11 zf_U_13 ⟨zt_U, zn_U, Or.inr ⟨rfl, rfl, rfl⟩⟩ rfl rfl (fun μ2 => ?_)
  refine J_aload_n zd_U_init_14 rfl ?_
  refine J_iload_n zd_U_init_15 rfl ?_
  refine J_pI zd_U_init_16 zf_U_16 ⟨zt_U, zn_U, Or.inr ⟨rfl, rfl, rfl⟩⟩ rfl rfl (fun μ3 => ?_)
  refine J_aload_n zd_U_init_19 rfl ?_
  refine J_iload zd_U_init_20 rfl ?_
  refine J_pI zd_U_init_22 zf_U_19 ⟨zt_U, zn_U, Or.inr ⟨rfl, rfl, rfl⟩⟩ rfl rfl (fun μ4 => ?_)
  refine J_aload_n zd_U_init_25 rfl ?_
  refine J_iload zd_U_init_26 rfl ?_
  refine J_pI zd_U_init_28 zf_U_22 ⟨zt_U, zn_U, Or.inr ⟨rfl, rfl, rfl⟩⟩ rfl rfl (fun μ5 => ?_)
  exact J_vret zd_U_init_31 rfl (Nat.le_of_ble_eq_true rfl) (Nat.le_of_ble_eq_true rfl)
def f_U_told (a0 : Nat) (a1 : Int32) (μ : Mem) : Option (LV × Mem) := (if a1 = 0 then gI 4 a0 0 μ (fun v1 => (some (.inl v1, μ))) else (if a1 = 1 then gI 4 a0 1 μ (fun v2 => (some (.inl v2, μ))) else (if a1 = 2 then gI 4 a0 2 μ (fun v3 => (some (.inl v3, μ))) else (if a1 = 3 then gI 4 a0 3 μ (fun v4 => (some (.inl v4, μ))) else gI 4 a0 4 μ (fun v5 => (some (.inl v5, μ)))))))
set_option maxRecDepth 20000 in
theorem c_U_told (E : EV) (a0 : Nat) (a1 : Int32) (μ : Mem) : Ct E I_U_told (rmk 1 0 0) [.inr a0, .inl a1] μ (f_U_told a0 a1 μ) := by
  refine Ct.of (k := 0) (by decide +kernel) rfl ?_
  show J E I_U_told (rmk 1 0 0) (QR E I_U_told (rmk 1 0 0)) 0 0 μ 0 [some (.inr a0), some (.inl a1)] [] (f_U_told a0 a1 μ)
  unfold f_U_told
  refine J_iload_n zd_U_told_0 rfl ?_
  refine J_swc (v := 0) (fun q0 => ?_) (fun q0 => ?_)
  · refine J_swIn (v := 0) zd_U_told_1 q0 (by decide) (by decide) (off := 31) (tgt := 32) (by decide) rfl ?_
    refine J_aload_n zd_U_told_32 rfl ?_
    refine J_gI zd_U_told_33 zf_U_7 rfl (fun v1 => ?_)
    exact J_iret zd_U_told_36 rfl (Nat.le_of_ble_eq_true rfl) (Nat.le_of_ble_eq_true rfl)
  · skip
    refine J_swc (v := 1) (fun q1 => ?_) (fun q1 => ?_)
    · refine J_swIn (v := 1) zd_U_told_1 q1 (by decide) (by decide) (off := 36) (tgt := 37) (by decide) rfl ?_
      refine J_aload_n zd_U_told_37 rfl ?_
      refine J_gI zd_U_told_38 zf_U_13 rfl (fun v2 => ?_)
      exact J_iret zd_U_told_41 rfl (Nat.le_of_ble_eq_true rfl) (Nat.le_of_ble_eq_true rfl)
    · skip
      refine J_swc (v := 2) (fun q2 => ?_) (fun q2 => ?_)
      · refine J_swIn (v := 2) zd_U_told_1 q2 (by decide) (by decide) (off := 41) (tgt := 42) (by decide) rfl ?_
        refine J_aload_n zd_U_told_42 rfl ?_
        refine J_gI zd_U_told_43 zf_U_16 rfl (fun v3 => ?_)
        exact J_iret zd_U_told_46 rfl (Nat.le_of_ble_eq_true rfl) (Nat.le_of_ble_eq_true rfl)
      · skip
        refine J_swc (v := 3) (fun q3 => ?_) (fun q3 => ?_)
        · refine J_swIn (v := 3) zd_U_told_1 q3 (by decide) (by decide) (off := 46) (tgt := 47) (by decide) rfl ?_
          refine J_aload_n zd_U_told_47 rfl ?_
          refine J_gI zd_U_told_48 zf_U_19 rfl (fun v4 => ?_)
          exact J_iret zd_U_told_51 rfl (Nat.le_of_ble_eq_true rfl) (Nat.le_of_ble_eq_true rfl)
        · skip
          refine J_swOut (tgt := 52) zd_U_told_1 (sw_out [0, 1, 2, 3] (List.forall_mem_cons.mpr ⟨q0, List.forall_mem_cons.mpr ⟨q1, List.forall_mem_cons.mpr ⟨q2, List.forall_mem_cons.mpr ⟨q3, fun _ h => absurd h List.not_mem_nil⟩⟩⟩⟩) (by decide +kernel)) rfl ?_
          refine J_aload_n zd_U_told_52 rfl ?_
          refine J_gI zd_U_told_53 zf_U_22 rfl (fun v5 => ?_)
          exact J_iret zd_U_told_56 rfl (Nat.le_of_ble_eq_true rfl) (Nat.le_of_ble_eq_true rfl)
def f_F_tellReady (a0 : Nat) (a1 : Int32) (a2 : Int32) (a3 : Int32) (μ : Mem) : Option (LV × Mem) := gR 3 a0 3 μ (fun r1 => aS r1 a1 a2 μ (fun μ2 => gR 3 a0 4 μ2 (fun r3 => bI (f_MA_max 0 (a3 - 1) μ2) (fun v5 μ4 => aS r3 a1 v5 μ4 (fun μ6 => gR 3 a0 5 μ6 (fun r7 => (if a3 = 0 then zS r7 a1 1 μ6 (fun μ9 => (some (.inl 0, μ9))) else zS r7 a1 0 μ6 (fun μ8 => (some (.inl 0, μ8))))))))))
set_option maxRecDepth 20000 in
theorem c_F_tellReady (E : EV) (a0 : Nat) (a1 : Int32) (a2 : Int32) (a3 : Int32) (μ : Mem) : Ct E I_F_tellReady (rmk 2 0 0) [.inr a0, .inl a1, .inl a2, .inl a3] μ (f_F_tellReady a0 a1 a2 a3 μ) := by
  refine Ct.of (k := 0) (by decide +kernel) rfl ?_
  show J E I_F_tellReady (rmk 2 0 0) (QR E I_F_tellReady (rmk 2 0 0)) 0 0 μ 0 [some (.inr a0), some (.inl a1), some (.inl a2), some (.inl a3)] [] (f_F_tellReady a0 a1 a2 a3 μ)
  unfold f_F_tellReady
  refine J_aload_n zd_F_tellReady_0 rfl ?_
  refine J_gR zd_F_tellReady_1 zf_F_22 rfl (fun r1 => ?_)
  refine J_iload_n zd_F_tellReady_4 rfl ?_
  refine J_iload_n zd_F_tellReady_5 rfl ?_
  refine J_aS zd_F_tellReady_6 (fun μ2 => ?_)
  refine J_aload_n zd_F_tellReady_7 rfl ?_
  refine J_gR zd_F_tellReady_8 zf_F_25 rfl (fun r3 => ?_)
  refine J_iload_n zd_F_tellReady_11 rfl ?_
  refine J_iconst (v := 0) zd_F_tellReady_12 (by decide) ?_
  refine J_iload_n zd_F_tellReady_13 rfl ?_
  refine J_iconst (v := 1) zd_F_tellReady_14 (by decide) ?_
  refine J_isub zd_F_tellReady_15 ?_
  refine J_callSi (as := [.inl _, .inl _]) zd_F_tellReady_16 zm_MA_max ⟨Nat.le_of_ble_eq_true rfl, Nat.le_of_ble_eq_true rfl⟩ zw_603 zw_280 rfl (Nat.le_of_ble_eq_true rfl) ⟨Nat.le_of_ble_eq_true rfl, Nat.le_of_ble_eq_true rfl⟩ rfl rfl (c_MA_max E _ _ _) (fun v5 μ4 => ?_)
  refine J_aS zd_F_tellReady_19 (fun μ6 => ?_)
  refine J_aload_n zd_F_tellReady_20 rfl ?_
  refine J_gR zd_F_tellReady_21 zf_F_28 rfl (fun r7 => ?_)
  refine J_iload_n zd_F_tellReady_24 rfl ?_
  refine J_iload_n zd_F_tellReady_25 rfl ?_
  refine J_if_ne (tgt := 33) zd_F_tellReady_26 rfl ?_ ?_
  · refine J_iconst (v := 0) zd_F_tellReady_33 (by decide) ?_
    refine J_zS zd_F_tellReady_34 (fun μ8 => ?_)
    exact J_vret zd_F_tellReady_35 rfl (Nat.le_of_ble_eq_true rfl) (Nat.le_of_ble_eq_true rfl)
  · refine J_iconst (v := 1) zd_F_tellReady_29 (by decide) ?_
    refine J_goto (tgt := 34) zd_F_tellReady_30 rfl ?_
    refine J_zS zd_F_tellReady_34 (fun μ9 => ?_)
    exact J_vret zd_F_tellReady_35 rfl (Nat.le_of_ble_eq_true rfl) (Nat.le_of_ble_eq_true rfl)
def b_F_keepIfBetter_25  (a0 : Nat) (a1 : Int32) (a2 : Int32)  (μ : Mem) : Option (LV × Mem) := pI 3 a0 1 a1 μ (fun μ1 => pI 3 a0 2 a2 μ1 (fun μ2 => gR 3 a0 6 μ2 (fun r3 => gR 3 a0 0 μ2 (fun r4 => cpI r3 0 r4 0 6 μ2 (fun μ5 => (some (.inl 0, μ5)))))))
set_option maxRecDepth 20000 in
theorem j_F_keepIfBetter_25 (E : EV) (a0 : Nat) (a1 : Int32) (a2 : Int32)  (μ : Mem)  : J E I_F_keepIfBetter (rmk 1 0 0) (QR E I_F_keepIfBetter (rmk 1 0 0)) 0 0 μ 25 [some (.inr a0), some (.inl a1), some (.inl a2)] [] (b_F_keepIfBetter_25 a0 a1 a2 μ) := by
  unfold b_F_keepIfBetter_25
  refine J_aload_n zd_F_keepIfBetter_25 rfl ?_
  refine J_iload_n zd_F_keepIfBetter_26 rfl ?_
  refine J_pI zd_F_keepIfBetter_27 zf_F_15 ⟨zt_F, zn_F, Or.inl rfl⟩ rfl rfl (fun μ1 => ?_)
  refine J_aload_n zd_F_keepIfBetter_30 rfl ?_
  refine J_iload_n zd_F_keepIfBetter_31 rfl ?_
  refine J_pI zd_F_keepIfBetter_32 zf_F_19 ⟨zt_F, zn_F, Or.inl rfl⟩ rfl rfl (fun μ2 => ?_)
  refine J_aload_n zd_F_keepIfBetter_35 rfl ?_
  refine J_gR zd_F_keepIfBetter_36 zf_F_32 rfl (fun r3 => ?_)
  refine J_iconst (v := 0) zd_F_keepIfBetter_39 (by decide) ?_
  refine J_aload_n zd_F_keepIfBetter_40 rfl ?_
  refine J_gR zd_F_keepIfBetter_41 zf_F_9 rfl (fun r4 => ?_)
  refine J_iconst (v := 0) zd_F_keepIfBetter_44 (by decide) ?_
  refine J_bipush (v := 6) zd_F_keepIfBetter_45 (by decide) ?_
  refine J_cpI zd_F_keepIfBetter_47 zw_615 zw_316 zw_315 zw_15 (Nat.le_of_ble_eq_true rfl) (Nat.le_of_ble_eq_true rfl) (Nat.le_of_ble_eq_true rfl) (fun μ5 => ?_)
  exact J_vret zd_F_keepIfBetter_50 rfl (Nat.le_of_ble_eq_true rfl) (Nat.le_of_ble_eq_true rfl)
def f_F_keepIfBetter (a0 : Nat) (a1 : Int32) (a2 : Int32) (μ : Mem) : Option (LV × Mem) := gI 3 a0 1 μ (fun v6 => (if a1 < v6 then (some (.inl 0, μ)) else gI 3 a0 1 μ (fun v7 => (if a1 = v7 then gI 3 a0 2 μ (fun v8 => (if a2 < v8 then (b_F_keepIfBetter_25 a0 a1 a2 μ) else (some (.inl 0, μ)))) else (b_F_keepIfBetter_25 a0 a1 a2 μ)))))
set_option maxRecDepth 20000 in
theorem c_F_keepIfBetter (E : EV) (a0 : Nat) (a1 : Int32) (a2 : Int32) (μ : Mem) : Ct E I_F_keepIfBetter (rmk 1 0 0) [.inr a0, .inl a1, .inl a2] μ (f_F_keepIfBetter a0 a1 a2 μ) := by
  refine Ct.of (k := 0) (by decide +kernel) rfl ?_
  show J E I_F_keepIfBetter (rmk 1 0 0) (QR E I_F_keepIfBetter (rmk 1 0 0)) 0 0 μ 0 [some (.inr a0), some (.inl a1), some (.inl a2)] [] (f_F_keepIfBetter a0 a1 a2 μ)
  unfold f_F_keepIfBetter
  refine J_iload_n zd_F_keepIfBetter_0 rfl ?_
  refine J_aload_n zd_F_keepIfBetter_1 rfl ?_
  refine J_gI zd_F_keepIfBetter_2 zf_F_15 rfl (fun v6 => ?_)
  refine J_icmp_lt (tgt := 24) zd_F_keepIfBetter_5 rfl ?_ ?_
  · exact J_vret zd_F_keepIfBetter_24 rfl (Nat.le_of_ble_eq_true rfl) (Nat.le_of_ble_eq_true rfl)
  · refine J_iload_n zd_F_keepIfBetter_8 rfl ?_
    refine J_aload_n zd_F_keepIfBetter_9 rfl ?_
    refine J_gI zd_F_keepIfBetter_10 zf_F_15 rfl (fun v7 => ?_)
    refine J_icmp_ne (tgt := 25) zd_F_keepIfBetter_13 rfl ?_ ?_
    · refine J_wid (k := 0) (n := 0) (Nat.le_of_ble_eq_true rfl) (Nat.le_of_ble_eq_true rfl) ?_
      refine J_keep [true, true, true] rfl ?_
      exact j_F_keepIfBetter_25 E _ _ _ _
    · refine J_iload_n zd_F_keepIfBetter_16 rfl ?_
      refine J_aload_n zd_F_keepIfBetter_17 rfl ?_
      refine J_gI zd_F_keepIfBetter_18 zf_F_19 rfl (fun v8 => ?_)
      refine J_icmp_lt (tgt := 25) zd_F_keepIfBetter_21 rfl ?_ ?_
      · refine J_wid (k := 0) (n := 0) (Nat.le_of_ble_eq_true rfl) (Nat.le_of_ble_eq_true rfl) ?_
        refine J_keep [true, true, true] rfl ?_
        exact j_F_keepIfBetter_25 E _ _ _ _
      · exact J_vret zd_F_keepIfBetter_24 rfl (Nat.le_of_ble_eq_true rfl) (Nat.le_of_ble_eq_true rfl)
def b_F_tryFrom_116 (rc : Nat → Int32 → Int32 → Int32 → Mem → Option (LV × Mem)) (c16 : Int32 → Mem → Option (LV × Mem)) (a0 : Nat) (a1 : Int32) (a2 : Int32) (a3 : Int32) (a4 : Int32)  (μ : Mem) : Option (LV × Mem) := (c16 (a4 + 1) μ)
set_option maxRecDepth 20000 in
theorem j_F_tryFrom_116 (E : EV) (nn : Nat) {rc : Nat → Int32 → Int32 → Int32 → Mem → Option (LV × Mem)} (hrc : ∀ (z0 : Nat) (z1 z2 z3 : Int32) (μ : Mem), Ct E I_F_tryFrom (rmk (nn + 3) 0 0) [.inr z0, .inl z1, .inl z2, .inl z3] μ (rc z0 z1 z2 z3 μ)) (a0 : Nat) (a1 : Int32) (a2 : Int32) (a3 : Int32) (a4 : Int32)  (μ : Mem) {c16 : Int32 → Mem → Option (LV × Mem)} (h16 : ∀ (b4 : Int32)  (μ : Mem), J E I_F_tryFrom (rmk (nn + 4) 0 0) (QR E I_F_tryFrom (rmk (nn + 4) 0 0)) 0 0 μ 16 [some (.inr a0), some (.inl a1), some (.inl a2), some (.inl a3), some (.inl b4), none] [] (c16 b4 μ)) : J E I_F_tryFrom (rmk (nn + 4) 0 0) (QR E I_F_tryFrom (rmk (nn + 4) 0 0)) 0 0 μ 116 [some (.inr a0), some (.inl a1), some (.inl a2), some (.inl a3), some (.inl a4), none] [] (b_F_tryFrom_116 rc c16 a0 a1 a2 a3 a4 μ) := by
  unfold b_F_tryFrom_116
  refine J_iinc (v := _ + 1) (lv' := [some _, some _, some _, some _, some _, none]) zd_F_tryFrom_116 (Nat.le_of_ble_eq_true rfl) rfl (by rfl) rfl ?_
  refine J_goto (tgt := 16) zd_F_tryFrom_119 rfl ?_
  refine J_wid (k := 0) (n := 0) (Nat.le_of_ble_eq_true rfl) (Nat.le_of_ble_eq_true rfl) ?_
  refine J_keep [true, true, true, true, true, false] rfl ?_
  exact h16 _ _
def k_F_tryFrom_16 (rc : Nat → Int32 → Int32 → Int32 → Mem → Option (LV × Mem)) (c122 : Nat → Int32 → Int32 → Int32 → Mem → Option (LV × Mem)) (a0 : Nat) (a1 : Int32) (a2 : Int32) (a3 : Int32) : Nat → Int32 → Mem → Option (LV × Mem)
  | 0, _, _ => none
  | n + 1, a4, μ => gR 3 a0 5 μ (fun r1 => zI r1 a1 μ (fun v2 => (if v2 = 0 then (c122 a0 a1 a2 a3 μ) else (if 6 ≤ a4 then (c122 a0 a1 a2 a3 μ) else gR 3 a0 3 μ (fun r3 => aI r3 a4 μ (fun v4 => gR 3 a0 3 μ (fun r5 => aI r5 a1 μ (fun v6 => bI (f_MA_abs (v4 - v6) μ) (fun v8 μ7 => gR 3 a0 4 μ7 (fun r9 => aI r9 a4 μ7 (fun v10 => (if v10 < 1 then (b_F_tryFrom_116 rc (k_F_tryFrom_16 rc c122 a0 a1 a2 a3 n) a0 a1 a2 a3 a4 μ7) else (if v8 ≤ 80 then gR 3 a0 4 μ7 (fun r11 => aI r11 a4 μ7 (fun v12 => aS r11 a4 (v12 - 1) μ7 (fun μ13 => gR 3 a0 6 μ13 (fun r14 => aS r14 a1 a4 μ13 (fun μ15 => bV (rc a0 (a1 + 1) (a2 + 1) (a3 + v8) μ15) (fun μ16 => gR 3 a0 4 μ16 (fun r17 => aI r17 a4 μ16 (fun v18 => aS r17 a4 (v18 + 1) μ16 (fun μ19 => (b_F_tryFrom_116 rc (k_F_tryFrom_16 rc c122 a0 a1 a2 a3 n) a0 a1 a2 a3 a4 μ19)))))))))) else (b_F_tryFrom_116 rc (k_F_tryFrom_16 rc c122 a0 a1 a2 a3 n) a0 a1 a2 a3 a4 μ7))))))))))))))
set_option maxRecDepth 20000 in
theorem j_F_tryFrom_16 (E : EV) (nn : Nat) {rc : Nat → Int32 → Int32 → Int32 → Mem → Option (LV × Mem)} (hrc : ∀ (z0 : Nat) (z1 z2 z3 : Int32) (μ : Mem), Ct E I_F_tryFrom (rmk (nn + 3) 0 0) [.inr z0, .inl z1, .inl z2, .inl z3] μ (rc z0 z1 z2 z3 μ)) (a0 : Nat) (a1 : Int32) (a2 : Int32) (a3 : Int32) {c122 : Nat → Int32 → Int32 → Int32 → Mem → Option (LV × Mem)} (h122 : ∀ (b0 : Nat) (b1 : Int32) (b2 : Int32) (b3 : Int32)  (μ : Mem), J E I_F_tryFrom (rmk (nn + 4) 0 0) (QR E I_F_tryFrom (rmk (nn + 4) 0 0)) 0 0 μ 122 [some (.inr b0), some (.inl b1), some (.inl b2), some (.inl b3), none, none] [] (c122 b0 b1 b2 b3 μ)) : ∀ (n : Nat) (a4 : Int32) (μ : Mem), J E I_F_tryFrom (rmk (nn + 4) 0 0) (QR E I_F_tryFrom (rmk (nn + 4) 0 0)) 0 0 μ 16 [some (.inr a0), some (.inl a1), some (.inl a2), some (.inl a3), some (.inl a4), none] [] (k_F_tryFrom_16 rc c122 a0 a1 a2 a3 n a4 μ)
  | 0, _, _ => J_none
  | n + 1, a4, μ => by
    show J E I_F_tryFrom (rmk (nn + 4) 0 0) (QR E I_F_tryFrom (rmk (nn + 4) 0 0)) 0 0 μ 16 [some (.inr a0), some (.inl a1), some (.inl a2), some (.inl a3), some (.inl a4), none] [] (gR 3 a0 5 μ (fun r1 => zI r1 a1 μ (fun v2 => (if v2 = 0 then (c122 a0 a1 a2 a3 μ) else (if 6 ≤ a4 then (c122 a0 a1 a2 a3 μ) else gR 3 a0 3 μ (fun r3 => aI r3 a4 μ (fun v4 => gR 3 a0 3 μ (fun r5 => aI r5 a1 μ (fun v6 => bI (f_MA_abs (v4 - v6) μ) (fun v8 μ7 => gR 3 a0 4 μ7 (fun r9 => aI r9 a4 μ7 (fun v10 => (if v10 < 1 then (b_F_tryFrom_116 rc (k_F_tryFrom_16 rc c122 a0 a1 a2 a3 n) a0 a1 a2 a3 a4 μ7) else (if v8 ≤ 80 then gR 3 a0 4 μ7 (fun r11 => aI r11 a4 μ7 (fun v12 => aS r11 a4 (v12 - 1) μ7 (fun μ13 => gR 3 a0 6 μ13 (fun r14 => aS r14 a1 a4 μ13 (fun μ15 => bV (rc a0 (a1 + 1) (a2 + 1) (a3 + v8) μ15) (fun μ16 => gR 3 a0 4 μ16 (fun r17 => aI r17 a4 μ16 (fun v18 => aS r17 a4 (v18 + 1) μ16 (fun μ19 => (b_F_tryFrom_116 rc (k_F_tryFrom_16 rc c122 a0 a1 a2 a3 n) a0 a1 a2 a3 a4 μ19)))))))))) else (b_F_tryFrom_116 rc (k_F_tryFrom_16 rc c122 a0 a1 a2 a3 n) a0 a1 a2 a3 a4 μ7)))))))))))))))
    refine J_aload_n zd_F_tryFrom_16 rfl ?_
    refine J_gR zd_F_tryFrom_17 zf_F_28 rfl (fun r1 => ?_)
    refine J_iload_n zd_F_tryFrom_20 rfl ?_
    refine J_zI zd_F_tryFrom_21 (fun v2 => ?_)
    refine J_if_eq (tgt := 122) zd_F_tryFrom_22 rfl ?_ ?_
    · refine J_wid (k := 0) (n := 0) (Nat.le_of_ble_eq_true rfl) (Nat.le_of_ble_eq_true rfl) ?_
      refine J_keep [true, true, true, true, false, false] rfl ?_
      exact h122 _ _ _ _ _
    · refine J_iload zd_F_tryFrom_25 rfl ?_
      refine J_bipush (v := 6) zd_F_tryFrom_27 (by decide) ?_
      refine J_icmp_ge (tgt := 122) zd_F_tryFrom_29 rfl ?_ ?_
      · refine J_wid (k := 0) (n := 0) (Nat.le_of_ble_eq_true rfl) (Nat.le_of_ble_eq_true rfl) ?_
        refine J_keep [true, true, true, true, false, false] rfl ?_
        exact h122 _ _ _ _ _
      · refine J_aload_n zd_F_tryFrom_32 rfl ?_
        refine J_gR zd_F_tryFrom_33 zf_F_22 rfl (fun r3 => ?_)
        refine J_iload zd_F_tryFrom_36 rfl ?_
        refine J_aI zd_F_tryFrom_38 (fun v4 => ?_)
        refine J_aload_n zd_F_tryFrom_39 rfl ?_
        refine J_gR zd_F_tryFrom_40 zf_F_22 rfl (fun r5 => ?_)
        refine J_iload_n zd_F_tryFrom_43 rfl ?_
        refine J_aI zd_F_tryFrom_44 (fun v6 => ?_)
        refine J_isub zd_F_tryFrom_45 ?_
        refine J_callSi (as := [.inl _]) zd_F_tryFrom_46 zm_MA_abs ⟨by show 1 + 1 ≤ nn + 4; omega, by show 8 + (1 + 11) + 40 * 1 ≤ 40 * (nn + 4); omega⟩ zw_616 zw_514 rfl (Nat.le_of_ble_eq_true rfl) ⟨Nat.le_of_ble_eq_true rfl, Nat.le_of_ble_eq_true rfl⟩ rfl rfl (c_MA_abs E _ _) (fun v8 μ7 => ?_)
        refine J_istore (lv' := [some _, some _, some _, some _, some _, some _]) zd_F_tryFrom_49 (Nat.le_of_ble_eq_true rfl) rfl ?_
        refine J_aload_n zd_F_tryFrom_51 rfl ?_
        refine J_gR zd_F_tryFrom_52 zf_F_25 rfl (fun r9 => ?_)
        refine J_iload zd_F_tryFrom_55 rfl ?_
        refine J_aI zd_F_tryFrom_57 (fun v10 => ?_)
        refine J_iconst (v := 1) zd_F_tryFrom_58 (by decide) ?_
        refine J_icmp_lt (tgt := 116) zd_F_tryFrom_59 rfl ?_ ?_
        · refine J_wid (k := 0) (n := 0) (Nat.le_of_ble_eq_true rfl) (Nat.le_of_ble_eq_true rfl) ?_
          refine J_keep [true, true, true, true, true, false] rfl ?_
          exact j_F_tryFrom_116 E nn hrc _ _ _ _ _ _ (j_F_tryFrom_16 E nn hrc a0 a1 a2 a3 h122 n)
        · refine J_iload zd_F_tryFrom_62 rfl ?_
          refine J_bipush (v := 80) zd_F_tryFrom_64 (by decide) ?_
          refine J_icmp_le (tgt := 72) zd_F_tryFrom_66 rfl ?_ ?_
          · refine J_aload_n zd_F_tryFrom_72 rfl ?_
            refine J_gR zd_F_tryFrom_73 zf_F_25 rfl (fun r11 => ?_)
            refine J_iload zd_F_tryFrom_76 rfl ?_
            refine J_dup2 zd_F_tryFrom_78 ?_
            refine J_aI zd_F_tryFrom_79 (fun v12 => ?_)
            refine J_iconst (v := 1) zd_F_tryFrom_80 (by decide) ?_
            refine J_isub zd_F_tryFrom_81 ?_
            refine J_aS zd_F_tryFrom_82 (fun μ13 => ?_)
            refine J_aload_n zd_F_tryFrom_83 rfl ?_
            refine J_gR zd_F_tryFrom_84 zf_F_32 rfl (fun r14 => ?_)
            refine J_iload_n zd_F_tryFrom_87 rfl ?_
            refine J_iload zd_F_tryFrom_88 rfl ?_
            refine J_aS zd_F_tryFrom_90 (fun μ15 => ?_)
            refine J_aload_n zd_F_tryFrom_91 rfl ?_
            refine J_iload_n zd_F_tryFrom_92 rfl ?_
            refine J_iconst (v := 1) zd_F_tryFrom_93 (by decide) ?_
            refine J_iadd zd_F_tryFrom_94 ?_
            refine J_iload_n zd_F_tryFrom_95 rfl ?_
            refine J_iconst (v := 1) zd_F_tryFrom_96 (by decide) ?_
            refine J_iadd zd_F_tryFrom_97 ?_
            refine J_iload_n zd_F_tryFrom_98 rfl ?_
            refine J_iload zd_F_tryFrom_99 rfl ?_
            refine J_iadd zd_F_tryFrom_101 ?_
            refine J_callSv (as := [.inr _, .inl _, .inl _, .inl _]) zd_F_tryFrom_102 zm_F_tryFrom ⟨by show nn + 3 + 1 ≤ nn + 4; omega, by show 8 + (6 + 11) + 40 * (nn + 3) ≤ 40 * (nn + 4); omega⟩ zw_608 zw_609 rfl (Nat.le_of_ble_eq_true rfl) ⟨Nat.le_of_ble_eq_true rfl, Nat.le_of_ble_eq_true rfl⟩ rfl rfl (hrc _ _ _ _ _) (fun μ16 => ?_)
            refine J_aload_n zd_F_tryFrom_105 rfl ?_
            refine J_gR zd_F_tryFrom_106 zf_F_25 rfl (fun r17 => ?_)
            refine J_iload zd_F_tryFrom_109 rfl ?_
            refine J_dup2 zd_F_tryFrom_111 ?_
            refine J_aI zd_F_tryFrom_112 (fun v18 => ?_)
            refine J_iconst (v := 1) zd_F_tryFrom_113 (by decide) ?_
            refine J_iadd zd_F_tryFrom_114 ?_
            refine J_aS zd_F_tryFrom_115 (fun μ19 => ?_)
            refine J_wid (k := 0) (n := 0) (Nat.le_of_ble_eq_true rfl) (Nat.le_of_ble_eq_true rfl) ?_
            refine J_keep [true, true, true, true, true, false] rfl ?_
            exact j_F_tryFrom_116 E nn hrc _ _ _ _ _ _ (j_F_tryFrom_16 E nn hrc a0 a1 a2 a3 h122 n)
          · refine J_goto (tgt := 116) zd_F_tryFrom_69 rfl ?_
            refine J_wid (k := 0) (n := 0) (Nat.le_of_ble_eq_true rfl) (Nat.le_of_ble_eq_true rfl) ?_
            refine J_keep [true, true, true, true, true, false] rfl ?_
            exact j_F_tryFrom_116 E nn hrc _ _ _ _ _ _ (j_F_tryFrom_16 E nn hrc a0 a1 a2 a3 h122 n)
def b_F_tryFrom_122 (rc : Nat → Int32 → Int32 → Int32 → Mem → Option (LV × Mem))  (a0 : Nat) (a1 : Int32) (a2 : Int32) (a3 : Int32)  (μ : Mem) : Option (LV × Mem) := gR 3 a0 6 μ (fun r20 => aS r20 a1 (-9) μ (fun μ21 => bV (rc a0 (a1 + 1) a2 a3 μ21) (fun μ22 => (some (.inl 0, μ22)))))
set_option maxRecDepth 20000 in
theorem j_F_tryFrom_122 (E : EV) (nn : Nat) {rc : Nat → Int32 → Int32 → Int32 → Mem → Option (LV × Mem)} (hrc : ∀ (z0 : Nat) (z1 z2 z3 : Int32) (μ : Mem), Ct E I_F_tryFrom (rmk (nn + 3) 0 0) [.inr z0, .inl z1, .inl z2, .inl z3] μ (rc z0 z1 z2 z3 μ)) (a0 : Nat) (a1 : Int32) (a2 : Int32) (a3 : Int32)  (μ : Mem)  : J E I_F_tryFrom (rmk (nn + 4) 0 0) (QR E I_F_tryFrom (rmk (nn + 4) 0 0)) 0 0 μ 122 [some (.inr a0), some (.inl a1), some (.inl a2), some (.inl a3), none, none] [] (b_F_tryFrom_122 rc a0 a1 a2 a3 μ) := by
  unfold b_F_tryFrom_122
  refine J_aload_n zd_F_tryFrom_122 rfl ?_
  refine J_gR zd_F_tryFrom_123 zf_F_32 rfl (fun r20 => ?_)
  refine J_iload_n zd_F_tryFrom_126 rfl ?_
  refine J_bipush (v := (-9)) zd_F_tryFrom_127 (by decide) ?_
  refine J_aS zd_F_tryFrom_129 (fun μ21 => ?_)
  refine J_aload_n zd_F_tryFrom_130 rfl ?_
  refine J_iload_n zd_F_tryFrom_131 rfl ?_
  refine J_iconst (v := 1) zd_F_tryFrom_132 (by decide) ?_
  refine J_iadd zd_F_tryFrom_133 ?_
  refine J_iload_n zd_F_tryFrom_134 rfl ?_
  refine J_iload_n zd_F_tryFrom_135 rfl ?_
  refine J_callSv (as := [.inr _, .inl _, .inl _, .inl _]) zd_F_tryFrom_136 zm_F_tryFrom ⟨by show nn + 3 + 1 ≤ nn + 4; omega, by show 8 + (6 + 11) + 40 * (nn + 3) ≤ 40 * (nn + 4); omega⟩ zw_608 zw_609 rfl (Nat.le_of_ble_eq_true rfl) ⟨Nat.le_of_ble_eq_true rfl, Nat.le_of_ble_eq_true rfl⟩ rfl rfl (hrc _ _ _ _ _) (fun μ22 => ?_)
  exact J_vret zd_F_tryFrom_139 rfl (Nat.le_of_ble_eq_true rfl) (Nat.le_of_ble_eq_true rfl)
def f_F_tryFrom : Nat → Nat → Int32 → Int32 → Int32 → Mem → Option (LV × Mem)
  | 0, _, _, _, _, _ => none
  | nn + 1, a0, a1, a2, a3, μ => (if a1 < 6 then (k_F_tryFrom_16 (f_F_tryFrom nn) (fun b0 b1 b2 b3 m_ => b_F_tryFrom_122 (f_F_tryFrom nn) b0 b1 b2 b3 m_) a0 a1 a2 a3 120000 0 μ) else cV 3 a0 μ (bV (f_F_keepIfBetter a0 a2 a3 μ) (fun μ23 => (some (.inl 0, μ23)))))
set_option maxRecDepth 20000 in
theorem c_F_tryFrom (E : EV) : ∀ (nn : Nat) (a0 : Nat) (a1 : Int32) (a2 : Int32) (a3 : Int32) (μ : Mem), Ct E I_F_tryFrom (rmk (nn + 3) 0 0) [.inr a0, .inl a1, .inl a2, .inl a3] μ (f_F_tryFrom nn a0 a1 a2 a3 μ)
  | 0, _, _, _, _, _ => fun r h => by cases h
  | nn + 1, a0, a1, a2, a3, μ => by
    refine Ct.of (k := 2) (by decide +kernel) rfl ?_
    show J E I_F_tryFrom (rmk (nn + 4) 0 0) (QR E I_F_tryFrom (rmk (nn + 4) 0 0)) 0 0 μ 0 [some (.inr a0), some (.inl a1), some (.inl a2), some (.inl a3), none, none] [] ((if a1 < 6 then (k_F_tryFrom_16 (f_F_tryFrom nn) (fun b0 b1 b2 b3 m_ => b_F_tryFrom_122 (f_F_tryFrom nn) b0 b1 b2 b3 m_) a0 a1 a2 a3 120000 0 μ) else cV 3 a0 μ (bV (f_F_keepIfBetter a0 a2 a3 μ) (fun μ23 => (some (.inl 0, μ23))))))
    refine J_iload_n zd_F_tryFrom_0 rfl ?_
    refine J_bipush (v := 6) zd_F_tryFrom_1 (by decide) ?_
    refine J_icmp_lt (tgt := 13) zd_F_tryFrom_3 rfl ?_ ?_
    · refine J_iconst (v := 0) zd_F_tryFrom_13 (by decide) ?_
      refine J_istore (lv' := [some _, some _, some _, some _, some _, none]) zd_F_tryFrom_14 (Nat.le_of_ble_eq_true rfl) rfl ?_
      refine J_wid (k := 0) (n := 0) (Nat.le_of_ble_eq_true rfl) (Nat.le_of_ble_eq_true rfl) ?_
      refine J_keep [true, true, true, true, true, false] rfl ?_
      exact j_F_tryFrom_16 E nn (fun z0 z1 z2 z3 m_ => c_F_tryFrom E nn z0 z1 z2 z3 m_) _ _ _ _ (fun b0 b1 b2 b3 m_ => j_F_tryFrom_122 E nn (fun z0 z1 z2 z3 m_ => c_F_tryFrom E nn z0 z1 z2 z3 m_) b0 b1 b2 b3 m_) _ _ _
    · refine J_aload_n zd_F_tryFrom_6 rfl ?_
      refine J_iload_n zd_F_tryFrom_7 rfl ?_
      refine J_iload_n zd_F_tryFrom_8 rfl ?_
      refine J_callVv (ci := 3) (as := [.inl _, .inl _]) zd_F_tryFrom_9 zm_F_keepIfBetter ⟨by show 1 + 1 ≤ nn + 4; omega, by show 8 + (3 + 11) + 40 * 1 ≤ 40 * (nn + 4); omega⟩ zw_611 zw_613 zs_17 (by decide) rfl rfl (Nat.le_of_ble_eq_true rfl) ⟨Nat.le_of_ble_eq_true rfl, Nat.le_of_ble_eq_true rfl⟩ rfl rfl (c_F_keepIfBetter E _ _ _ _) (fun μ23 => ?_)
      exact J_vret zd_F_tryFrom_12 rfl (Nat.le_of_ble_eq_true rfl) (Nat.le_of_ble_eq_true rfl)
def f_F_find (a0 : Nat) (μ : Mem) : Option (LV × Mem) := pI 3 a0 1 (-1) μ (fun μ1 => pI 3 a0 2 0 μ1 (fun μ2 => bV (f_F_tryFrom 8 a0 0 0 0 μ2) (fun μ3 => (some (.inl 0, μ3)))))
set_option maxRecDepth 20000 in
theorem c_F_find (E : EV) (a0 : Nat) (μ : Mem) : Ct E I_F_find (rmk 12 0 0) [.inr a0] μ (f_F_find a0 μ) := by
  refine Ct.of (k := 0) (by decide +kernel) rfl ?_
  show J E I_F_find (rmk 12 0 0) (QR E I_F_find (rmk 12 0 0)) 0 0 μ 0 [some (.inr a0)] [] (f_F_find a0 μ)
  unfold f_F_find
  refine J_aload_n zd_F_find_0 rfl ?_
  refine J_iconst (v := (-1)) zd_F_find_1 (by decide) ?_
  refine J_pI zd_F_find_2 zf_F_15 ⟨zt_F, zn_F, Or.inl rfl⟩ rfl rfl (fun μ1 => ?_)
  refine J_aload_n zd_F_find_5 rfl ?_
  refine J_iconst (v := 0) zd_F_find_6 (by decide) ?_
  refine J_pI zd_F_find_7 zf_F_19 ⟨zt_F, zn_F, Or.inl rfl⟩ rfl rfl (fun μ2 => ?_)
  refine J_aload_n zd_F_find_10 rfl ?_
  refine J_iconst (v := 0) zd_F_find_11 (by decide) ?_
  refine J_iconst (v := 0) zd_F_find_12 (by decide) ?_
  refine J_iconst (v := 0) zd_F_find_13 (by decide) ?_
  refine J_callSv (as := [.inr _, .inl _, .inl _, .inl _]) zd_F_find_14 zm_F_tryFrom ⟨Nat.le_of_ble_eq_true rfl, Nat.le_of_ble_eq_true rfl⟩ zw_608 zw_609 rfl (Nat.le_of_ble_eq_true rfl) ⟨Nat.le_of_ble_eq_true rfl, Nat.le_of_ble_eq_true rfl⟩ rfl rfl (c_F_tryFrom E 8 _ _ _ _ _) (fun μ3 => ?_)
  exact J_vret zd_F_find_17 rfl (Nat.le_of_ble_eq_true rfl) (Nat.le_of_ble_eq_true rfl)
def f_S_leftOf (a0 : Int32) (a1 : Int32) (μ : Mem) : Option (LV × Mem) := (some (.inl ((a0 * (10 - a1)) / 10), μ))
set_option maxRecDepth 20000 in
theorem c_S_leftOf (E : EV) (a0 : Int32) (a1 : Int32) (μ : Mem) : Ct E I_S_leftOf (rmk 1 0 0) [.inl a0, .inl a1] μ (f_S_leftOf a0 a1 μ) := by
  refine Ct.of (k := 0) (by decide +kernel) rfl ?_
  show J E I_S_leftOf (rmk 1 0 0) (QR E I_S_leftOf (rmk 1 0 0)) 0 0 μ 0 [some (.inl a0), some (.inl a1)] [] (f_S_leftOf a0 a1 μ)
  unfold f_S_leftOf
  refine J_iload_n zd_S_leftOf_0 rfl ?_
  refine J_bipush (v := 10) zd_S_leftOf_1 (by decide) ?_
  refine J_iload_n zd_S_leftOf_3 rfl ?_
  refine J_isub zd_S_leftOf_4 ?_
  refine J_imul zd_S_leftOf_5 ?_
  refine J_bipush (v := 10) zd_S_leftOf_6 (by decide) ?_
  refine J_idivL zd_S_leftOf_8 (by decide) ?_
  exact J_iret zd_S_leftOf_9 rfl (Nat.le_of_ble_eq_true rfl) (Nat.le_of_ble_eq_true rfl)
def f_S_foundOf (a0 : Int32) (a1 : Int32) (μ : Mem) : Option (LV × Mem) := (some (.inl ((a0 * a1) / 10), μ))
set_option maxRecDepth 20000 in
theorem c_S_foundOf (E : EV) (a0 : Int32) (a1 : Int32) (μ : Mem) : Ct E I_S_foundOf (rmk 1 0 0) [.inl a0, .inl a1] μ (f_S_foundOf a0 a1 μ) := by
  refine Ct.of (k := 0) (by decide +kernel) rfl ?_
  show J E I_S_foundOf (rmk 1 0 0) (QR E I_S_foundOf (rmk 1 0 0)) 0 0 μ 0 [some (.inl a0), some (.inl a1)] [] (f_S_foundOf a0 a1 μ)
  unfold f_S_foundOf
  refine J_iload_n zd_S_foundOf_0 rfl ?_
  refine J_iload_n zd_S_foundOf_1 rfl ?_
  refine J_imul zd_S_foundOf_2 ?_
  refine J_bipush (v := 10) zd_S_foundOf_3 (by decide) ?_
  refine J_idivL zd_S_foundOf_5 (by decide) ?_
  exact J_iret zd_S_foundOf_6 rfl (Nat.le_of_ble_eq_true rfl) (Nat.le_of_ble_eq_true rfl)
def b_S_richest_35 (c4 : Int32 → Int32 → Mem → Option (LV × Mem)) (a0 : Nat) (a1 : Int32) (a2 : Int32) (a3 : Int32)  (μ : Mem) : Option (LV × Mem) := (c4 a2 (a3 + 1) μ)
set_option maxRecDepth 20000 in
theorem j_S_richest_35 (E : EV) (a0 : Nat) (a1 : Int32) (a2 : Int32) (a3 : Int32)  (μ : Mem) {c4 : Int32 → Int32 → Mem → Option (LV × Mem)} (h4 : ∀ (b2 : Int32) (b3 : Int32)  (μ : Mem), J E I_S_richest (rmk 2 0 0) (QR E I_S_richest (rmk 2 0 0)) 0 0 μ 4 [some (.inr a0), some (.inl a1), some (.inl b2), some (.inl b3)] [] (c4 b2 b3 μ)) : J E I_S_richest (rmk 2 0 0) (QR E I_S_richest (rmk 2 0 0)) 0 0 μ 35 [some (.inr a0), some (.inl a1), some (.inl a2), some (.inl a3)] [] (b_S_richest_35 c4 a0 a1 a2 a3 μ) := by
  unfold b_S_richest_35
  refine J_iinc (v := _ + 1) (lv' := [some _, some _, some _, some _]) zd_S_richest_35 (Nat.le_of_ble_eq_true rfl) rfl (by rfl) rfl ?_
  refine J_goto (tgt := 4) zd_S_richest_38 rfl ?_
  refine J_wid (k := 0) (n := 0) (Nat.le_of_ble_eq_true rfl) (Nat.le_of_ble_eq_true rfl) ?_
  refine J_keep [true, true, true, true] rfl ?_
  exact h4 _ _ _
def k_S_richest_4  (a0 : Nat) (a1 : Int32) : Nat → Int32 → Int32 → Mem → Option (LV × Mem)
  | 0, _, _, _ => none
  | n + 1, a2, a3, μ => (if 12 ≤ a3 then (some (.inl a2, μ)) else gR 7 a0 3 μ (fun r1 => aI r1 a3 μ (fun v2 => bI (f_S_foundOf v2 a1 μ) (fun v4 μ3 => gR 7 a0 3 μ3 (fun r5 => aI r5 a2 μ3 (fun v6 => bI (f_S_foundOf v6 a1 μ3) (fun v8 μ7 => (if v4 ≤ v8 then (b_S_richest_35 (k_S_richest_4 a0 a1 n) a0 a1 a2 a3 μ7) else (b_S_richest_35 (k_S_richest_4 a0 a1 n) a0 a1 a3 a3 μ7)))))))))
set_option maxRecDepth 20000 in
theorem j_S_richest_4 (E : EV) (a0 : Nat) (a1 : Int32)  : ∀ (n : Nat) (a2 : Int32) (a3 : Int32) (μ : Mem), J E I_S_richest (rmk 2 0 0) (QR E I_S_richest (rmk 2 0 0)) 0 0 μ 4 [some (.inr a0), some (.inl a1), some (.inl a2), some (.inl a3)] [] (k_S_richest_4 a0 a1 n a2 a3 μ)
  | 0, _, _, _ => J_none
  | n + 1, a2, a3, μ => by
    show J E I_S_richest (rmk 2 0 0) (QR E I_S_richest (rmk 2 0 0)) 0 0 μ 4 [some (.inr a0), some (.inl a1), some (.inl a2), some (.inl a3)] [] ((if 12 ≤ a3 then (some (.inl a2, μ)) else gR 7 a0 3 μ (fun r1 => aI r1 a3 μ (fun v2 => bI (f_S_foundOf v2 a1 μ) (fun v4 μ3 => gR 7 a0 3 μ3 (fun r5 => aI r5 a2 μ3 (fun v6 => bI (f_S_foundOf v6 a1 μ3) (fun v8 μ7 => (if v4 ≤ v8 then (b_S_richest_35 (k_S_richest_4 a0 a1 n) a0 a1 a2 a3 μ7) else (b_S_richest_35 (k_S_richest_4 a0 a1 n) a0 a1 a3 a3 μ7))))))))))
    refine J_iload_n zd_S_richest_4 rfl ?_
    refine J_bipush (v := 12) zd_S_richest_5 (by decide) ?_
    refine J_icmp_ge (tgt := 41) zd_S_richest_7 rfl ?_ ?_
    · refine J_iload_n zd_S_richest_41 rfl ?_
      exact J_iret zd_S_richest_42 rfl (Nat.le_of_ble_eq_true rfl) (Nat.le_of_ble_eq_true rfl)
    · refine J_aload_n zd_S_richest_10 rfl ?_
      refine J_gR zd_S_richest_11 zf_S_22 rfl (fun r1 => ?_)
      refine J_iload_n zd_S_richest_14 rfl ?_
      refine J_aI zd_S_richest_15 (fun v2 => ?_)
      refine J_iload_n zd_S_richest_16 rfl ?_
      refine J_callSi (as := [.inl _, .inl _]) zd_S_richest_17 zm_S_foundOf ⟨Nat.le_of_ble_eq_true rfl, Nat.le_of_ble_eq_true rfl⟩ zw_651 zw_652 rfl (Nat.le_of_ble_eq_true rfl) ⟨Nat.le_of_ble_eq_true rfl, Nat.le_of_ble_eq_true rfl⟩ rfl rfl (c_S_foundOf E _ _ _) (fun v4 μ3 => ?_)
      refine J_aload_n zd_S_richest_20 rfl ?_
      refine J_gR zd_S_richest_21 zf_S_22 rfl (fun r5 => ?_)
      refine J_iload_n zd_S_richest_24 rfl ?_
      refine J_aI zd_S_richest_25 (fun v6 => ?_)
      refine J_iload_n zd_S_richest_26 rfl ?_
      refine J_callSi (as := [.inl _, .inl _]) zd_S_richest_27 zm_S_foundOf ⟨Nat.le_of_ble_eq_true rfl, Nat.le_of_ble_eq_true rfl⟩ zw_651 zw_652 rfl (Nat.le_of_ble_eq_true rfl) ⟨Nat.le_of_ble_eq_true rfl, Nat.le_of_ble_eq_true rfl⟩ rfl rfl (c_S_foundOf E _ _ _) (fun v8 μ7 => ?_)
      refine J_icmp_le (tgt := 35) zd_S_richest_30 rfl ?_ ?_
      · refine J_wid (k := 0) (n := 0) (Nat.le_of_ble_eq_true rfl) (Nat.le_of_ble_eq_true rfl) ?_
        refine J_keep [true, true, true, true] rfl ?_
        exact j_S_richest_35 E _ _ _ _ _ (j_S_richest_4 E a0 a1 n)
      · refine J_iload_n zd_S_richest_33 rfl ?_
        refine J_istore_n (lv' := [some _, some _, some _, some _]) zd_S_richest_34 (Nat.le_of_ble_eq_true rfl) rfl ?_
        refine J_wid (k := 0) (n := 0) (Nat.le_of_ble_eq_true rfl) (Nat.le_of_ble_eq_true rfl) ?_
        refine J_keep [true, true, true, true] rfl ?_
        exact j_S_richest_35 E _ _ _ _ _ (j_S_richest_4 E a0 a1 n)
def f_S_richest (a0 : Nat) (a1 : Int32) (μ : Mem) : Option (LV × Mem) := (k_S_richest_4 a0 a1 120000 0 1 μ)
set_option maxRecDepth 20000 in
theorem c_S_richest (E : EV) (a0 : Nat) (a1 : Int32) (μ : Mem) : Ct E I_S_richest (rmk 2 0 0) [.inr a0, .inl a1] μ (f_S_richest a0 a1 μ) := by
  refine Ct.of (k := 2) (by decide +kernel) rfl ?_
  show J E I_S_richest (rmk 2 0 0) (QR E I_S_richest (rmk 2 0 0)) 0 0 μ 0 [some (.inr a0), some (.inl a1), none, none] [] (f_S_richest a0 a1 μ)
  unfold f_S_richest
  refine J_iconst (v := 0) zd_S_richest_0 (by decide) ?_
  refine J_istore_n (lv' := [some _, some _, some _, none]) zd_S_richest_1 (Nat.le_of_ble_eq_true rfl) rfl ?_
  refine J_iconst (v := 1) zd_S_richest_2 (by decide) ?_
  refine J_istore_n (lv' := [some _, some _, some _, some _]) zd_S_richest_3 (Nat.le_of_ble_eq_true rfl) rfl ?_
  refine J_wid (k := 0) (n := 0) (Nat.le_of_ble_eq_true rfl) (Nat.le_of_ble_eq_true rfl) ?_
  refine J_keep [true, true, true, true] rfl ?_
  exact j_S_richest_4 E _ _ _ _ _ _
def k_S_plan_22  (a0 : Nat) (a1 : Int32) (a2 : Int32) : Nat → Int32 → Mem → Option (LV × Mem)
  | 0, _, _ => none
  | n + 1, a3, μ => (if a1 ≤ a3 then (some (.inl 0, μ)) else (if 20 ≤ a3 then (some (.inl 0, μ)) else cV 7 a0 μ (bI (f_S_richest a0 a2 μ) (fun v2 μ1 => gR 7 a0 1 μ1 (fun r3 => aS r3 a3 v2 μ1 (fun μ4 => gI 7 a0 2 μ4 (fun v5 => gR 7 a0 3 μ4 (fun r6 => aI r6 v2 μ4 (fun v7 => bI (f_S_foundOf v7 a2 μ4) (fun v9 μ8 => pI 7 a0 2 (v5 + v9) μ8 (fun μ10 => gR 7 a0 3 μ10 (fun r11 => gR 7 a0 3 μ10 (fun r12 => aI r12 v2 μ10 (fun v13 => bI (f_S_leftOf v13 a2 μ10) (fun v15 μ14 => aS r11 v2 v15 μ14 (fun μ16 => (k_S_plan_22 a0 a1 a2 n (a3 + 1) μ16)))))))))))))))))
set_option maxRecDepth 20000 in
theorem j_S_plan_22 (E : EV) (a0 : Nat) (a1 : Int32) (a2 : Int32)  : ∀ (n : Nat) (a3 : Int32) (μ : Mem), J E I_S_plan (rmk 3 0 0) (QR E I_S_plan (rmk 3 0 0)) 0 0 μ 22 [some (.inr a0), some (.inl a1), some (.inl a2), some (.inl a3), none] [] (k_S_plan_22 a0 a1 a2 n a3 μ)
  | 0, _, _ => J_none
  | n + 1, a3, μ => by
    show J E I_S_plan (rmk 3 0 0) (QR E I_S_plan (rmk 3 0 0)) 0 0 μ 22 [some (.inr a0), some (.inl a1), some (.inl a2), some (.inl a3), none] [] ((if a1 ≤ a3 then (some (.inl 0, μ)) else (if 20 ≤ a3 then (some (.inl 0, μ)) else cV 7 a0 μ (bI (f_S_richest a0 a2 μ) (fun v2 μ1 => gR 7 a0 1 μ1 (fun r3 => aS r3 a3 v2 μ1 (fun μ4 => gI 7 a0 2 μ4 (fun v5 => gR 7 a0 3 μ4 (fun r6 => aI r6 v2 μ4 (fun v7 => bI (f_S_foundOf v7 a2 μ4) (fun v9 μ8 => pI 7 a0 2 (v5 + v9) μ8 (fun μ10 => gR 7 a0 3 μ10 (fun r11 => gR 7 a0 3 μ10 (fun r12 => aI r12 v2 μ10 (fun v13 => bI (f_S_leftOf v13 a2 μ10) (fun v15 μ14 => aS r11 v2 v15 μ14 (fun μ16 => (k_S_plan_22 a0 a1 a2 n (a3 + 1) μ16))))))))))))))))))
    refine J_iload_n zd_S_plan_22 rfl ?_
    refine J_iload_n zd_S_plan_23 rfl ?_
    refine J_icmp_ge (tgt := 92) zd_S_plan_24 rfl ?_ ?_
    · exact J_vret zd_S_plan_92 rfl (Nat.le_of_ble_eq_true rfl) (Nat.le_of_ble_eq_true rfl)
    · refine J_iload_n zd_S_plan_27 rfl ?_
      refine J_bipush (v := 20) zd_S_plan_28 (by decide) ?_
      refine J_icmp_ge (tgt := 92) zd_S_plan_30 rfl ?_ ?_
      · exact J_vret zd_S_plan_92 rfl (Nat.le_of_ble_eq_true rfl) (Nat.le_of_ble_eq_true rfl)
      · refine J_aload_n zd_S_plan_33 rfl ?_
        refine J_iload_n zd_S_plan_34 rfl ?_
        refine J_callVi (ci := 7) (as := [.inl _]) zd_S_plan_35 zm_S_richest ⟨Nat.le_of_ble_eq_true rfl, Nat.le_of_ble_eq_true rfl⟩ zw_647 zw_649 zs_18 (by decide) rfl rfl (Nat.le_of_ble_eq_true rfl) ⟨Nat.le_of_ble_eq_true rfl, Nat.le_of_ble_eq_true rfl⟩ rfl rfl (c_S_richest E _ _ _) (fun v2 μ1 => ?_)
        refine J_istore (lv' := [some _, some _, some _, some _, some _]) zd_S_plan_38 (Nat.le_of_ble_eq_true rfl) rfl ?_
        refine J_aload_n zd_S_plan_40 rfl ?_
        refine J_gR zd_S_plan_41 zf_S_15 rfl (fun r3 => ?_)
        refine J_iload_n zd_S_plan_44 rfl ?_
        refine J_iload zd_S_plan_45 rfl ?_
        refine J_aS zd_S_plan_47 (fun μ4 => ?_)
        refine J_aload_n zd_S_plan_48 rfl ?_
        refine J_dup zd_S_plan_49 ?_
        refine J_gI zd_S_plan_50 zf_S_18 rfl (fun v5 => ?_)
        refine J_aload_n zd_S_plan_53 rfl ?_
        refine J_gR zd_S_plan_54 zf_S_22 rfl (fun r6 => ?_)
        refine J_iload zd_S_plan_57 rfl ?_
        refine J_aI zd_S_plan_59 (fun v7 => ?_)
        refine J_iload_n zd_S_plan_60 rfl ?_
        refine J_callSi (as := [.inl _, .inl _]) zd_S_plan_61 zm_S_foundOf ⟨Nat.le_of_ble_eq_true rfl, Nat.le_of_ble_eq_true rfl⟩ zw_651 zw_652 rfl (Nat.le_of_ble_eq_true rfl) ⟨Nat.le_of_ble_eq_true rfl, Nat.le_of_ble_eq_true rfl⟩ rfl rfl (c_S_foundOf E _ _ _) (fun v9 μ8 => ?_)
        refine J_iadd zd_S_plan_64 ?_
        refine J_pI zd_S_plan_65 zf_S_18 ⟨zt_S, zn_S, Or.inl rfl⟩ rfl rfl (fun μ10 => ?_)
        refine J_aload_n zd_S_plan_68 rfl ?_
        refine J_gR zd_S_plan_69 zf_S_22 rfl (fun r11 => ?_)
        refine J_iload zd_S_plan_72 rfl ?_
        refine J_aload_n zd_S_plan_74 rfl ?_
        refine J_gR zd_S_plan_75 zf_S_22 rfl (fun r12 => ?_)
        refine J_iload zd_S_plan_78 rfl ?_
        refine J_aI zd_S_plan_80 (fun v13 => ?_)
        refine J_iload_n zd_S_plan_81 rfl ?_
        refine J_callSi (as := [.inl _, .inl _]) zd_S_plan_82 zm_S_leftOf ⟨Nat.le_of_ble_eq_true rfl, Nat.le_of_ble_eq_true rfl⟩ zw_654 zw_633 rfl (Nat.le_of_ble_eq_true rfl) ⟨Nat.le_of_ble_eq_true rfl, Nat.le_of_ble_eq_true rfl⟩ rfl rfl (c_S_leftOf E _ _ _) (fun v15 μ14 => ?_)
        refine J_aS zd_S_plan_85 (fun μ16 => ?_)
        refine J_iinc (v := _ + 1) (lv' := [some _, some _, some _, some _, some _]) zd_S_plan_86 (Nat.le_of_ble_eq_true rfl) rfl (by rfl) rfl ?_
        refine J_goto (tgt := 22) zd_S_plan_89 rfl ?_
        refine J_wid (k := 0) (n := 0) (Nat.le_of_ble_eq_true rfl) (Nat.le_of_ble_eq_true rfl) ?_
        refine J_keep [true, true, true, true, false] rfl ?_
        exact j_S_plan_22 E a0 a1 a2 n _ _
def f_S_plan (a0 : Nat) (a1 : Int32) (a2 : Int32) (μ : Mem) : Option (LV × Mem) := gR 7 a0 0 μ (fun r17 => gR 7 a0 3 μ (fun r18 => cpI r17 0 r18 0 12 μ (fun μ19 => pI 7 a0 2 0 μ19 (fun μ20 => (k_S_plan_22 a0 a1 a2 120000 0 μ20)))))
set_option maxRecDepth 20000 in
theorem c_S_plan (E : EV) (a0 : Nat) (a1 : Int32) (a2 : Int32) (μ : Mem) : Ct E I_S_plan (rmk 3 0 0) [.inr a0, .inl a1, .inl a2] μ (f_S_plan a0 a1 a2 μ) := by
  refine Ct.of (k := 2) (by decide +kernel) rfl ?_
  show J E I_S_plan (rmk 3 0 0) (QR E I_S_plan (rmk 3 0 0)) 0 0 μ 0 [some (.inr a0), some (.inl a1), some (.inl a2), none, none] [] (f_S_plan a0 a1 a2 μ)
  unfold f_S_plan
  refine J_aload_n zd_S_plan_0 rfl ?_
  refine J_gR zd_S_plan_1 zf_S_9 rfl (fun r17 => ?_)
  refine J_iconst (v := 0) zd_S_plan_4 (by decide) ?_
  refine J_aload_n zd_S_plan_5 rfl ?_
  refine J_gR zd_S_plan_6 zf_S_22 rfl (fun r18 => ?_)
  refine J_iconst (v := 0) zd_S_plan_9 (by decide) ?_
  refine J_bipush (v := 12) zd_S_plan_10 (by decide) ?_
  refine J_cpI zd_S_plan_12 zw_646 zw_316 zw_315 zw_15 (Nat.le_of_ble_eq_true rfl) (Nat.le_of_ble_eq_true rfl) (Nat.le_of_ble_eq_true rfl) (fun μ19 => ?_)
  refine J_aload_n zd_S_plan_15 rfl ?_
  refine J_iconst (v := 0) zd_S_plan_16 (by decide) ?_
  refine J_pI zd_S_plan_17 zf_S_18 ⟨zt_S, zn_S, Or.inl rfl⟩ rfl rfl (fun μ20 => ?_)
  refine J_iconst (v := 0) zd_S_plan_20 (by decide) ?_
  refine J_istore_n (lv' := [some _, some _, some _, some _, none]) zd_S_plan_21 (Nat.le_of_ble_eq_true rfl) rfl ?_
  refine J_wid (k := 0) (n := 0) (Nat.le_of_ble_eq_true rfl) (Nat.le_of_ble_eq_true rfl) ?_
  refine J_keep [true, true, true, true, false] rfl ?_
  exact j_S_plan_22 E _ _ _ _ _ _
