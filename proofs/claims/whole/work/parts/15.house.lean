/-! functions and walks, by program: house -/
def k_H_init_145  (a0 : Nat) : Nat → Int32 → Mem → Option (LV × Mem)
  | 0, _, _ => none
  | n + 1, a1, μ => (if 6 ≤ a1 then (some (.inl 0, μ)) else gR 9 a0 0 μ (fun r1 => aS r1 a1 (40 * a1) μ (fun μ2 => (k_H_init_145 a0 n (a1 + 1) μ2))))
set_option maxRecDepth 20000 in
theorem j_H_init_145 (E : EV) (a0 : Nat)  : ∀ (n : Nat) (a1 : Int32) (μ : Mem), J E I_H_init (rmk 4 22 1472) (QR E I_H_init (rmk 4 22 1472)) 22 1472 μ 145 [some (.inr a0), some (.inl a1)] [] (k_H_init_145 a0 n a1 μ)
  | 0, _, _ => J_none
  | n + 1, a1, μ => by
    show J E I_H_init (rmk 4 22 1472) (QR E I_H_init (rmk 4 22 1472)) 22 1472 μ 145 [some (.inr a0), some (.inl a1)] [] ((if 6 ≤ a1 then (some (.inl 0, μ)) else gR 9 a0 0 μ (fun r1 => aS r1 a1 (40 * a1) μ (fun μ2 => (k_H_init_145 a0 n (a1 + 1) μ2)))))
    refine J_iload_n zd_H_init_145 rfl ?_
    refine J_bipush (v := 6) zd_H_init_146 (by decide) ?_
    refine J_icmp_ge (tgt := 167) zd_H_init_148 rfl ?_ ?_
    · exact J_vret zd_H_init_167 rfl (Nat.le_of_ble_eq_true rfl) (Nat.le_of_ble_eq_true rfl)
    · refine J_aload_n zd_H_init_151 rfl ?_
      refine J_gR zd_H_init_152 zf_H_9 rfl (fun r1 => ?_)
      refine J_iload_n zd_H_init_155 rfl ?_
      refine J_bipush (v := 40) zd_H_init_156 (by decide) ?_
      refine J_iload_n zd_H_init_158 rfl ?_
      refine J_imul zd_H_init_159 ?_
      refine J_aS zd_H_init_160 (fun μ2 => ?_)
      refine J_iinc (v := _ + 1) (lv' := [some _, some _]) zd_H_init_161 (Nat.le_of_ble_eq_true rfl) rfl (by rfl) rfl ?_
      refine J_goto (tgt := 145) zd_H_init_164 rfl ?_
      refine J_wid (k := 22) (n := 1472) (Nat.le_of_ble_eq_true rfl) (Nat.le_of_ble_eq_true rfl) ?_
      refine J_keep [true, true] rfl ?_
      exact j_H_init_145 E a0 n _ _
def f_H_init (a0 : Nat) (μ : Mem) : Option (LV × Mem) := cN a0 (nO μ (0, 6) (fun h3 μ4 => pR 9 a0 0 h3 μ4 (fun μ5 => nO μ5 (0, 6) (fun h6 μ7 => pR 9 a0 1 h6 μ7 (fun μ8 => nO μ8 (14, 0) (fun h9 μ10 => cN h9 (bV (f_AL_init h9 μ10) (fun μ11 => pR 9 a0 2 h9 μ11 (fun μ12 => nO μ12 (14, 0) (fun h13 μ14 => cN h13 (bV (f_AL_init h13 μ14) (fun μ15 => pR 9 a0 3 h13 μ15 (fun μ16 => nO μ16 (14, 0) (fun h17 μ18 => cN h17 (bV (f_AL_init h17 μ18) (fun μ19 => pR 9 a0 4 h17 μ19 (fun μ20 => nO μ20 (14, 0) (fun h21 μ22 => cN h21 (bV (f_AL_init h21 μ22) (fun μ23 => pR 9 a0 5 h21 μ23 (fun μ24 => nO μ24 (11, 0) (fun h25 μ26 => cN h25 (bV (f_T_init h25 μ26) (fun μ27 => pR 9 a0 6 h25 μ27 (fun μ28 => nO μ28 (5, 0) (fun h29 μ30 => cN h29 (bV (f_R_init h29 μ30) (fun μ31 => pR 9 a0 7 h29 μ31 (fun μ32 => nO μ32 (8, 0) (fun h33 μ34 => cN h33 (bV (f_P_init h33 μ34) (fun μ35 => pR 9 a0 8 h33 μ35 (fun μ36 => nO μ36 (6, 0) (fun h37 μ38 => cN h37 (bV (f_F_init h37 μ38) (fun μ39 => pR 9 a0 9 h37 μ39 (fun μ40 => nO μ40 (10, 0) (fun h41 μ42 => cN h41 (bV (f_S_init h41 μ42) (fun μ43 => pR 9 a0 10 h41 μ43 (fun μ44 => nO μ44 (0, 7) (fun h45 μ46 => pR 9 a0 11 h45 μ46 (fun μ47 => pI 9 a0 12 0 μ47 (fun μ48 => pI 9 a0 13 4 μ48 (fun μ49 => pI 9 a0 14 9 μ49 (fun μ50 => (k_H_init_145 a0 120000 0 μ50)))))))))))))))))))))))))))))))))))))))))))))))
set_option maxRecDepth 20000 in
theorem c_H_init (E : EV) (a0 : Nat) (μ : Mem) : Ct E I_H_init (rmk 4 22 1472) [.inr a0] μ (f_H_init a0 μ) := by
  refine Ct.of (k := 1) (by decide +kernel) rfl ?_
  show J E I_H_init (rmk 4 22 1472) (QR E I_H_init (rmk 4 22 1472)) 0 0 μ 0 [some (.inr a0), none] [] (f_H_init a0 μ)
  unfold f_H_init
  refine J_aload_n zd_H_init_0 rfl ?_
  refine J_obj zd_H_init_1 zw_26 zw_27 zw_28 (Nat.le_of_ble_eq_true rfl) (Nat.le_of_ble_eq_true rfl) (Nat.le_of_ble_eq_true rfl) ?_
  refine J_aload_n zd_H_init_4 rfl ?_
  refine J_bipush (v := 6) zd_H_init_5 (by decide) ?_
  refine J_newa zd_H_init_7 zw_55 (by decide) (N := 6) (by decide) (by decide) (Nat.le_of_ble_eq_true rfl) (Nat.le_of_ble_eq_true rfl) (fun h3 μ4 => ?_)
  refine J_pR zd_H_init_9 zf_H_9 ⟨zt_H, zn_H, Or.inr ⟨rfl, rfl, rfl⟩⟩ (Or.inr ⟨_, rfl⟩) rfl (fun μ5 => ?_)
  refine J_aload_n zd_H_init_12 rfl ?_
  refine J_bipush (v := 6) zd_H_init_13 (by decide) ?_
  refine J_newa zd_H_init_15 zw_55 (by decide) (N := 6) (by decide) (by decide) (Nat.le_of_ble_eq_true rfl) (Nat.le_of_ble_eq_true rfl) (fun h6 μ7 => ?_)
  refine J_pR zd_H_init_17 zf_H_13 ⟨zt_H, zn_H, Or.inr ⟨rfl, rfl, rfl⟩⟩ (Or.inr ⟨_, rfl⟩) rfl (fun μ8 => ?_)
  refine J_aload_n zd_H_init_20 rfl ?_
  refine J_new (ci := 11) zd_H_init_21 ⟨rfl, zi_AL, zt_AL, zv_AL, zw_29, zw_30, zw_4⟩ (Nat.le_of_ble_eq_true rfl) (Nat.le_of_ble_eq_true rfl) (fun h9 μ10 => ?_)
  refine J_dup zd_H_init_24 ?_
  refine J_callI (as := []) zd_H_init_25 zm_AL_init ⟨Nat.le_of_ble_eq_true rfl, Nat.le_of_ble_eq_true rfl⟩ zw_31 zw_32 rfl rfl (Nat.le_of_ble_eq_true rfl) ⟨Nat.le_of_ble_eq_true rfl, Nat.le_of_ble_eq_true rfl⟩ rfl rfl (c_AL_init E _ _) (fun μ11 => ?_)
  refine J_pR zd_H_init_28 zf_H_19 ⟨zt_H, zn_H, Or.inr ⟨rfl, rfl, rfl⟩⟩ (Or.inl ⟨_, rfl⟩) rfl (fun μ12 => ?_)
  refine J_aload_n zd_H_init_31 rfl ?_
  refine J_new (ci := 11) zd_H_init_32 ⟨rfl, zi_AL, zt_AL, zv_AL, zw_29, zw_30, zw_4⟩ (Nat.le_of_ble_eq_true rfl) (Nat.le_of_ble_eq_true rfl) (fun h13 μ14 => ?_)
  refine J_dup zd_H_init_35 ?_
  refine J_callI (as := []) zd_H_init_36 zm_AL_init ⟨Nat.le_of_ble_eq_true rfl, Nat.le_of_ble_eq_true rfl⟩ zw_31 zw_32 rfl rfl (Nat.le_of_ble_eq_true rfl) ⟨Nat.le_of_ble_eq_true rfl, Nat.le_of_ble_eq_true rfl⟩ rfl rfl (c_AL_init E _ _) (fun μ15 => ?_)
  refine J_pR zd_H_init_39 zf_H_23 ⟨zt_H, zn_H, Or.inr ⟨rfl, rfl, rfl⟩⟩ (Or.inl ⟨_, rfl⟩) rfl (fun μ16 => ?_)
  refine J_aload_n zd_H_init_42 rfl ?_
  refine J_new (ci := 11) zd_H_init_43 ⟨rfl, zi_AL, zt_AL, zv_AL, zw_29, zw_30, zw_4⟩ (Nat.le_of_ble_eq_true rfl) (Nat.le_of_ble_eq_true rfl) (fun h17 μ18 => ?_)
  refine J_dup zd_H_init_46 ?_
  refine J_callI (as := []) zd_H_init_47 zm_AL_init ⟨Nat.le_of_ble_eq_true rfl, Nat.le_of_ble_eq_true rfl⟩ zw_31 zw_32 rfl rfl (Nat.le_of_ble_eq_true rfl) ⟨Nat.le_of_ble_eq_true rfl, Nat.le_of_ble_eq_true rfl⟩ rfl rfl (c_AL_init E _ _) (fun μ19 => ?_)
  refine J_pR zd_H_init_50 zf_H_26 ⟨zt_H, zn_H, Or.inr ⟨rfl, rfl, rfl⟩⟩ (Or.inl ⟨_, rfl⟩) rfl (fun μ20 => ?_)
  refine J_aload_n zd_H_init_53 rfl ?_
  refine J_new (ci := 11) zd_H_init_54 ⟨rfl, zi_AL, zt_AL, zv_AL, zw_29, zw_30, zw_4⟩ (Nat.le_of_ble_eq_true rfl) (Nat.le_of_ble_eq_true rfl) (fun h21 μ22 => ?_)
  refine J_dup zd_H_init_57 ?_
  refine J_callI (as := []) zd_H_init_58 zm_AL_init ⟨Nat.le_of_ble_eq_true rfl, Nat.le_of_ble_eq_true rfl⟩ zw_31 zw_32 rfl rfl (Nat.le_of_ble_eq_true rfl) ⟨Nat.le_of_ble_eq_true rfl, Nat.le_of_ble_eq_true rfl⟩ rfl rfl (c_AL_init E _ _) (fun μ23 => ?_)
  refine J_pR zd_H_init_61 zf_H_29 ⟨zt_H, zn_H, Or.inr ⟨rfl, rfl, rfl⟩⟩ (Or.inl ⟨_, rfl⟩) rfl (fun μ24 => ?_)
  refine J_aload_n zd_H_init_64 rfl ?_
  refine J_new (ci := 8) zd_H_init_65 ⟨rfl, zi_T, zt_T, zv_T, zw_56, zw_57, zw_5⟩ (Nat.le_of_ble_eq_true rfl) (Nat.le_of_ble_eq_true rfl) (fun h25 μ26 => ?_)
  refine J_dup zd_H_init_68 ?_
  refine J_callI (as := []) zd_H_init_69 zm_T_init ⟨Nat.le_of_ble_eq_true rfl, Nat.le_of_ble_eq_true rfl⟩ zw_58 zw_59 rfl rfl (Nat.le_of_ble_eq_true rfl) ⟨Nat.le_of_ble_eq_true rfl, Nat.le_of_ble_eq_true rfl⟩ rfl rfl (c_T_init E _ _) (fun μ27 => ?_)
  refine J_pR zd_H_init_72 zf_H_35 ⟨zt_H, zn_H, Or.inr ⟨rfl, rfl, rfl⟩⟩ (Or.inl ⟨_, rfl⟩) rfl (fun μ28 => ?_)
  refine J_aload_n zd_H_init_75 rfl ?_
  refine J_new (ci := 2) zd_H_init_76 ⟨rfl, zi_R, zt_R, zv_R, zw_72, zw_73, zw_7⟩ (Nat.le_of_ble_eq_true rfl) (Nat.le_of_ble_eq_true rfl) (fun h29 μ30 => ?_)
  refine J_dup zd_H_init_79 ?_
  refine J_callIN (as := []) zd_H_init_80 zm_R_init ⟨Nat.le_of_ble_eq_true rfl, Nat.le_of_ble_eq_true rfl⟩ zw_74 zw_75 rfl rfl (Nat.le_of_ble_eq_true rfl) ⟨Nat.le_of_ble_eq_true rfl, Nat.le_of_ble_eq_true rfl⟩ rfl rfl (c_R_init E _ _) (fun μ31 => ?_)
  refine J_pR zd_H_init_83 zf_H_42 ⟨zt_H, zn_H, Or.inr ⟨rfl, rfl, rfl⟩⟩ (Or.inl ⟨_, rfl⟩) rfl (fun μ32 => ?_)
  refine J_aload_n zd_H_init_86 rfl ?_
  refine J_new (ci := 5) zd_H_init_87 ⟨rfl, zi_P, zt_P, zv_P, zw_85, zw_86, zw_8⟩ (Nat.le_of_ble_eq_true rfl) (Nat.le_of_ble_eq_true rfl) (fun h33 μ34 => ?_)
  refine J_dup zd_H_init_90 ?_
  refine J_callIN (as := []) zd_H_init_91 zm_P_init ⟨Nat.le_of_ble_eq_true rfl, Nat.le_of_ble_eq_true rfl⟩ zw_87 zw_88 rfl rfl (Nat.le_of_ble_eq_true rfl) ⟨Nat.le_of_ble_eq_true rfl, Nat.le_of_ble_eq_true rfl⟩ rfl rfl (c_P_init E _ _) (fun μ35 => ?_)
  refine J_pR zd_H_init_94 zf_H_49 ⟨zt_H, zn_H, Or.inr ⟨rfl, rfl, rfl⟩⟩ (Or.inl ⟨_, rfl⟩) rfl (fun μ36 => ?_)
  refine J_aload_n zd_H_init_97 rfl ?_
  refine J_new (ci := 3) zd_H_init_98 ⟨rfl, zi_F, zt_F, zv_F, zw_107, zw_108, zw_9⟩ (Nat.le_of_ble_eq_true rfl) (Nat.le_of_ble_eq_true rfl) (fun h37 μ38 => ?_)
  refine J_dup zd_H_init_101 ?_
  refine J_callIN (as := []) zd_H_init_102 zm_F_init ⟨Nat.le_of_ble_eq_true rfl, Nat.le_of_ble_eq_true rfl⟩ zw_109 zw_110 rfl rfl (Nat.le_of_ble_eq_true rfl) ⟨Nat.le_of_ble_eq_true rfl, Nat.le_of_ble_eq_true rfl⟩ rfl rfl (c_F_init E _ _) (fun μ39 => ?_)
  refine J_pR zd_H_init_105 zf_H_56 ⟨zt_H, zn_H, Or.inr ⟨rfl, rfl, rfl⟩⟩ (Or.inl ⟨_, rfl⟩) rfl (fun μ40 => ?_)
  refine J_aload_n zd_H_init_108 rfl ?_
  refine J_new (ci := 7) zd_H_init_109 ⟨rfl, zi_S, zt_S, zv_S, zw_139, zw_140, zw_10⟩ (Nat.le_of_ble_eq_true rfl) (Nat.le_of_ble_eq_true rfl) (fun h41 μ42 => ?_)
  refine J_dup zd_H_init_112 ?_
  refine J_callIN (as := []) zd_H_init_113 zm_S_init ⟨Nat.le_of_ble_eq_true rfl, Nat.le_of_ble_eq_true rfl⟩ zw_141 zw_142 rfl rfl (Nat.le_of_ble_eq_true rfl) ⟨Nat.le_of_ble_eq_true rfl, Nat.le_of_ble_eq_true rfl⟩ rfl rfl (c_S_init E _ _) (fun μ43 => ?_)
  refine J_pR zd_H_init_116 zf_H_63 ⟨zt_H, zn_H, Or.inr ⟨rfl, rfl, rfl⟩⟩ (Or.inl ⟨_, rfl⟩) rfl (fun μ44 => ?_)
  refine J_aload_n zd_H_init_119 rfl ?_
  refine J_bipush (v := 7) zd_H_init_120 (by decide) ?_
  refine J_newa zd_H_init_122 zw_55 (by decide) (N := 7) (by decide) (by decide) (Nat.le_of_ble_eq_true rfl) (Nat.le_of_ble_eq_true rfl) (fun h45 μ46 => ?_)
  refine J_pR zd_H_init_124 zf_H_67 ⟨zt_H, zn_H, Or.inr ⟨rfl, rfl, rfl⟩⟩ (Or.inr ⟨_, rfl⟩) rfl (fun μ47 => ?_)
  refine J_aload_n zd_H_init_127 rfl ?_
  refine J_iconst (v := 0) zd_H_init_128 (by decide) ?_
  refine J_pI zd_H_init_129 zf_H_70 ⟨zt_H, zn_H, Or.inl rfl⟩ rfl rfl (fun μ48 => ?_)
  refine J_aload_n zd_H_init_132 rfl ?_
  refine J_iconst (v := 4) zd_H_init_133 (by decide) ?_
  refine J_pI zd_H_init_134 zf_H_74 ⟨zt_H, zn_H, Or.inl rfl⟩ rfl rfl (fun μ49 => ?_)
  refine J_aload_n zd_H_init_137 rfl ?_
  refine J_bipush (v := 9) zd_H_init_138 (by decide) ?_
  refine J_pI zd_H_init_140 zf_H_77 ⟨zt_H, zn_H, Or.inl rfl⟩ rfl rfl (fun μ50 => ?_)
  refine J_iconst (v := 0) zd_H_init_143 (by decide) ?_
  refine J_istore_n (lv' := [some _, some _]) zd_H_init_144 (Nat.le_of_ble_eq_true rfl) rfl ?_
  refine J_wid (k := 22) (n := 1472) (Nat.le_of_ble_eq_true rfl) (Nat.le_of_ble_eq_true rfl) ?_
  refine J_keep [true, true] rfl ?_
  exact j_H_init_145 E _ _ _ _
def f_H_isStation (a0 : Int32) (μ : Mem) : Option (LV × Mem) := (if a0 < 0 then (some (.inl 0, μ)) else (if 6 ≤ a0 then (some (.inl 0, μ)) else (some (.inl 1, μ))))
set_option maxRecDepth 20000 in
theorem c_H_isStation (E : EV) (a0 : Int32) (μ : Mem) : Ct E I_H_isStation (rmk 1 0 0) [.inl a0] μ (f_H_isStation a0 μ) := by
  refine Ct.of (k := 0) (by decide +kernel) rfl ?_
  show J E I_H_isStation (rmk 1 0 0) (QR E I_H_isStation (rmk 1 0 0)) 0 0 μ 0 [some (.inl a0)] [] (f_H_isStation a0 μ)
  unfold f_H_isStation
  refine J_iload_n zd_H_isStation_0 rfl ?_
  refine J_if_lt (tgt := 14) zd_H_isStation_1 rfl ?_ ?_
  · refine J_iconst (v := 0) zd_H_isStation_14 (by decide) ?_
    exact J_zret zd_H_isStation_15 rfl rfl (Nat.le_of_ble_eq_true rfl) (Nat.le_of_ble_eq_true rfl)
  · refine J_iload_n zd_H_isStation_4 rfl ?_
    refine J_bipush (v := 6) zd_H_isStation_5 (by decide) ?_
    refine J_icmp_ge (tgt := 14) zd_H_isStation_7 rfl ?_ ?_
    · refine J_iconst (v := 0) zd_H_isStation_14 (by decide) ?_
      exact J_zret zd_H_isStation_15 rfl rfl (Nat.le_of_ble_eq_true rfl) (Nat.le_of_ble_eq_true rfl)
    · refine J_iconst (v := 1) zd_H_isStation_10 (by decide) ?_
      refine J_goto (tgt := 15) zd_H_isStation_11 rfl ?_
      exact J_zret zd_H_isStation_15 rfl rfl (Nat.le_of_ble_eq_true rfl) (Nat.le_of_ble_eq_true rfl)
def f_H_refuse (a0 : Nat) (a1 : Int32) (μ : Mem) : Option (LV × Mem) := (if 0 ≤ a1 then (some (.inl a1, μ)) else (if a1 < (-6) then (some (.inl a1, μ)) else gR 9 a0 11 μ (fun r1 => aI r1 (-a1) μ (fun v2 => aS r1 (-a1) (v2 + 1) μ (fun μ3 => (some (.inl a1, μ3)))))))
set_option maxRecDepth 20000 in
theorem c_H_refuse (E : EV) (a0 : Nat) (a1 : Int32) (μ : Mem) : Ct E I_H_refuse (rmk 1 0 0) [.inr a0, .inl a1] μ (f_H_refuse a0 a1 μ) := by
  refine Ct.of (k := 0) (by decide +kernel) rfl ?_
  show J E I_H_refuse (rmk 1 0 0) (QR E I_H_refuse (rmk 1 0 0)) 0 0 μ 0 [some (.inr a0), some (.inl a1)] [] (f_H_refuse a0 a1 μ)
  unfold f_H_refuse
  refine J_iload_n zd_H_refuse_0 rfl ?_
  refine J_if_ge (tgt := 21) zd_H_refuse_1 rfl ?_ ?_
  · refine J_iload_n zd_H_refuse_21 rfl ?_
    exact J_iret zd_H_refuse_22 rfl (Nat.le_of_ble_eq_true rfl) (Nat.le_of_ble_eq_true rfl)
  · refine J_iload_n zd_H_refuse_4 rfl ?_
    refine J_bipush (v := (-6)) zd_H_refuse_5 (by decide) ?_
    refine J_icmp_lt (tgt := 21) zd_H_refuse_7 rfl ?_ ?_
    · refine J_iload_n zd_H_refuse_21 rfl ?_
      exact J_iret zd_H_refuse_22 rfl (Nat.le_of_ble_eq_true rfl) (Nat.le_of_ble_eq_true rfl)
    · refine J_aload_n zd_H_refuse_10 rfl ?_
      refine J_gR zd_H_refuse_11 zf_H_67 rfl (fun r1 => ?_)
      refine J_iload_n zd_H_refuse_14 rfl ?_
      refine J_ineg zd_H_refuse_15 ?_
      refine J_dup2 zd_H_refuse_16 ?_
      refine J_aI zd_H_refuse_17 (fun v2 => ?_)
      refine J_iconst (v := 1) zd_H_refuse_18 (by decide) ?_
      refine J_iadd zd_H_refuse_19 ?_
      refine J_aS zd_H_refuse_20 (fun μ3 => ?_)
      refine J_iload_n zd_H_refuse_21 rfl ?_
      exact J_iret zd_H_refuse_22 rfl (Nat.le_of_ble_eq_true rfl) (Nat.le_of_ble_eq_true rfl)
def f_H_outside (a0 : Int32) (a1 : Int32) (a2 : Int32) (μ : Mem) : Option (LV × Mem) := (if a1 ≤ a0 then (if a0 ≤ a2 then (some (.inl 0, μ)) else (some (.inl (-6), μ))) else (some (.inl (-4), μ)))
set_option maxRecDepth 20000 in
theorem c_H_outside (E : EV) (a0 : Int32) (a1 : Int32) (a2 : Int32) (μ : Mem) : Ct E I_H_outside (rmk 1 0 0) [.inl a0, .inl a1, .inl a2] μ (f_H_outside a0 a1 a2 μ) := by
  refine Ct.of (k := 0) (by decide +kernel) rfl ?_
  show J E I_H_outside (rmk 1 0 0) (QR E I_H_outside (rmk 1 0 0)) 0 0 μ 0 [some (.inl a0), some (.inl a1), some (.inl a2)] [] (f_H_outside a0 a1 a2 μ)
  unfold f_H_outside
  refine J_iload_n zd_H_outside_0 rfl ?_
  refine J_iload_n zd_H_outside_1 rfl ?_
  refine J_icmp_ge (tgt := 8) zd_H_outside_2 rfl ?_ ?_
  · refine J_iload_n zd_H_outside_8 rfl ?_
    refine J_iload_n zd_H_outside_9 rfl ?_
    refine J_icmp_le (tgt := 18) zd_H_outside_10 rfl ?_ ?_
    · refine J_iconst (v := 0) zd_H_outside_18 (by decide) ?_
      exact J_iret zd_H_outside_19 rfl (Nat.le_of_ble_eq_true rfl) (Nat.le_of_ble_eq_true rfl)
    · refine J_bipush (v := (-6)) zd_H_outside_13 (by decide) ?_
      refine J_goto (tgt := 19) zd_H_outside_15 rfl ?_
      exact J_iret zd_H_outside_19 rfl (Nat.le_of_ble_eq_true rfl) (Nat.le_of_ble_eq_true rfl)
  · refine J_bipush (v := (-4)) zd_H_outside_5 (by decide) ?_
    exact J_iret zd_H_outside_7 rfl (Nat.le_of_ble_eq_true rfl) (Nat.le_of_ble_eq_true rfl)
def b_H_station_75  (a1 : Int32) (a3 : Int32) (s0 : Nat) (μ : Mem) : Option (LV × Mem) := aI s0 a1 μ (fun v1 => aS s0 a1 a3 μ (fun μ2 => (some (.inl v1, μ2))))
set_option maxRecDepth 20000 in
theorem j_H_station_75 (E : EV) (a1 : Int32) (a3 : Int32) (s0 : Nat) (μ : Mem)  : J E I_H_station (rmk 2 0 0) (QR E I_H_station (rmk 2 0 0)) 0 0 μ 75 [none, some (.inl a1), none, some (.inl a3), none, none, none] [.inr s0] (b_H_station_75 a1 a3 s0 μ) := by
  unfold b_H_station_75
  refine J_astore (lv' := [none, some _, none, some _, none, some _, none]) zd_H_station_75 (Nat.le_of_ble_eq_true rfl) rfl ?_
  refine J_aload zd_H_station_77 rfl ?_
  refine J_iload_n zd_H_station_79 rfl ?_
  refine J_aI zd_H_station_80 (fun v1 => ?_)
  refine J_istore (lv' := [none, some _, none, some _, none, some _, some _]) zd_H_station_81 (Nat.le_of_ble_eq_true rfl) rfl ?_
  refine J_aload zd_H_station_83 rfl ?_
  refine J_iload_n zd_H_station_85 rfl ?_
  refine J_iload_n zd_H_station_86 rfl ?_
  refine J_aS zd_H_station_87 (fun μ2 => ?_)
  refine J_iload zd_H_station_88 rfl ?_
  exact J_iret zd_H_station_90 rfl (Nat.le_of_ble_eq_true rfl) (Nat.le_of_ble_eq_true rfl)
def b_H_station_43  (a0 : Nat) (a1 : Int32) (a2 : Int32) (a3 : Int32) (s0 : Int32) (s1 : Int32) (s2 : Int32) (μ : Mem) : Option (LV × Mem) := bI (f_H_outside s2 s1 s0 μ) (fun v4 μ3 => (if v4 = 0 then (if a2 = 0 then gR 9 a0 0 μ3 (fun r6 => (b_H_station_75 a1 a3 r6 μ3)) else gR 9 a0 1 μ3 (fun r5 => (b_H_station_75 a1 a3 r5 μ3))) else cV 9 a0 μ3 (bI (f_H_refuse a0 v4 μ3) (fun v8 μ7 => (some (.inl v8, μ7))))))
set_option maxRecDepth 20000 in
theorem j_H_station_43 (E : EV) (a0 : Nat) (a1 : Int32) (a2 : Int32) (a3 : Int32) (s0 : Int32) (s1 : Int32) (s2 : Int32) (μ : Mem)  : J E I_H_station (rmk 2 0 0) (QR E I_H_station (rmk 2 0 0)) 0 0 μ 43 [some (.inr a0), some (.inl a1), some (.inl a2), some (.inl a3), none, none, none] [.inl s0, .inl s1, .inl s2] (b_H_station_43 a0 a1 a2 a3 s0 s1 s2 μ) := by
  unfold b_H_station_43
  refine J_callSi (as := [.inl _, .inl _, .inl _]) zd_H_station_43 zm_H_outside ⟨Nat.le_of_ble_eq_true rfl, Nat.le_of_ble_eq_true rfl⟩ zw_218 zw_219 rfl (Nat.le_of_ble_eq_true rfl) ⟨Nat.le_of_ble_eq_true rfl, Nat.le_of_ble_eq_true rfl⟩ rfl rfl (c_H_outside E _ _ _ _) (fun v4 μ3 => ?_)
  refine J_istore (lv' := [some _, some _, some _, some _, some _, none, none]) zd_H_station_46 (Nat.le_of_ble_eq_true rfl) rfl ?_
  refine J_iload zd_H_station_48 rfl ?_
  refine J_if_eq (tgt := 60) zd_H_station_50 rfl ?_ ?_
  · refine J_iload_n zd_H_station_60 rfl ?_
    refine J_if_ne (tgt := 71) zd_H_station_61 rfl ?_ ?_
    · refine J_aload_n zd_H_station_71 rfl ?_
      refine J_gR zd_H_station_72 zf_H_13 rfl (fun r5 => ?_)
      refine J_wid (k := 0) (n := 0) (Nat.le_of_ble_eq_true rfl) (Nat.le_of_ble_eq_true rfl) ?_
      refine J_keep [false, true, false, true, false, false, false] rfl ?_
      exact j_H_station_75 E _ _ _ _
    · refine J_aload_n zd_H_station_64 rfl ?_
      refine J_gR zd_H_station_65 zf_H_9 rfl (fun r6 => ?_)
      refine J_goto (tgt := 75) zd_H_station_68 rfl ?_
      refine J_wid (k := 0) (n := 0) (Nat.le_of_ble_eq_true rfl) (Nat.le_of_ble_eq_true rfl) ?_
      refine J_keep [false, true, false, true, false, false, false] rfl ?_
      exact j_H_station_75 E _ _ _ _
  · refine J_aload_n zd_H_station_53 rfl ?_
    refine J_iload zd_H_station_54 rfl ?_
    refine J_callVi (ci := 9) (as := [.inl _]) zd_H_station_56 zm_H_refuse ⟨Nat.le_of_ble_eq_true rfl, Nat.le_of_ble_eq_true rfl⟩ zw_214 zw_216 zs_0 (by decide) rfl rfl (Nat.le_of_ble_eq_true rfl) ⟨Nat.le_of_ble_eq_true rfl, Nat.le_of_ble_eq_true rfl⟩ rfl rfl (c_H_refuse E _ _ _) (fun v8 μ7 => ?_)
    exact J_iret zd_H_station_59 rfl (Nat.le_of_ble_eq_true rfl) (Nat.le_of_ble_eq_true rfl)
def b_H_station_29  (a0 : Nat) (a1 : Int32) (a2 : Int32) (a3 : Int32)  (μ : Mem) : Option (LV × Mem) := (if a2 = 0 then (b_H_station_43 a0 a1 a2 a3 300 0 a3 μ) else (b_H_station_43 a0 a1 a2 a3 12 0 a3 μ))
set_option maxRecDepth 20000 in
theorem j_H_station_29 (E : EV) (a0 : Nat) (a1 : Int32) (a2 : Int32) (a3 : Int32)  (μ : Mem)  : J E I_H_station (rmk 2 0 0) (QR E I_H_station (rmk 2 0 0)) 0 0 μ 29 [some (.inr a0), some (.inl a1), some (.inl a2), some (.inl a3), none, none, none] [] (b_H_station_29 a0 a1 a2 a3 μ) := by
  unfold b_H_station_29
  refine J_iload_n zd_H_station_29 rfl ?_
  refine J_iconst (v := 0) zd_H_station_30 (by decide) ?_
  refine J_iload_n zd_H_station_31 rfl ?_
  refine J_if_ne (tgt := 41) zd_H_station_32 rfl ?_ ?_
  · refine J_bipush (v := 12) zd_H_station_41 (by decide) ?_
    refine J_wid (k := 0) (n := 0) (Nat.le_of_ble_eq_true rfl) (Nat.le_of_ble_eq_true rfl) ?_
    refine J_keep [true, true, true, true, false, false, false] rfl ?_
    exact j_H_station_43 E _ _ _ _ _ _ _ _
  · refine J_sipush (v := 300) zd_H_station_35 (by decide) ?_
    refine J_goto (tgt := 43) zd_H_station_38 rfl ?_
    refine J_wid (k := 0) (n := 0) (Nat.le_of_ble_eq_true rfl) (Nat.le_of_ble_eq_true rfl) ?_
    refine J_keep [true, true, true, true, false, false, false] rfl ?_
    exact j_H_station_43 E _ _ _ _ _ _ _ _
def f_H_station (a0 : Nat) (a1 : Int32) (a2 : Int32) (a3 : Int32) (μ : Mem) : Option (LV × Mem) := bI (f_H_isStation a1 μ) (fun v10 μ9 => (if v10 = 0 then cV 9 a0 μ9 (bI (f_H_refuse a0 (-1) μ9) (fun v14 μ13 => (some (.inl v14, μ13)))) else (if a2 = 0 then (b_H_station_29 a0 a1 a2 a3 μ9) else (if a2 = 1 then (b_H_station_29 a0 a1 a2 a3 μ9) else cV 9 a0 μ9 (bI (f_H_refuse a0 (-2) μ9) (fun v12 μ11 => (some (.inl v12, μ11))))))))
set_option maxRecDepth 20000 in
theorem c_H_station (E : EV) (a0 : Nat) (a1 : Int32) (a2 : Int32) (a3 : Int32) (μ : Mem) : Ct E I_H_station (rmk 2 0 0) [.inr a0, .inl a1, .inl a2, .inl a3] μ (f_H_station a0 a1 a2 a3 μ) := by
  refine Ct.of (k := 3) (by decide +kernel) rfl ?_
  show J E I_H_station (rmk 2 0 0) (QR E I_H_station (rmk 2 0 0)) 0 0 μ 0 [some (.inr a0), some (.inl a1), some (.inl a2), some (.inl a3), none, none, none] [] (f_H_station a0 a1 a2 a3 μ)
  unfold f_H_station
  refine J_iload_n zd_H_station_0 rfl ?_
  refine J_callSi (as := [.inl _]) zd_H_station_1 zm_H_isStation ⟨Nat.le_of_ble_eq_true rfl, Nat.le_of_ble_eq_true rfl⟩ zw_211 zw_212 rfl (Nat.le_of_ble_eq_true rfl) ⟨Nat.le_of_ble_eq_true rfl, Nat.le_of_ble_eq_true rfl⟩ rfl rfl (c_H_isStation E _ _) (fun v10 μ9 => ?_)
  refine J_if_ne (tgt := 13) zd_H_station_4 rfl ?_ ?_
  · refine J_iload_n zd_H_station_13 rfl ?_
    refine J_if_eq (tgt := 29) zd_H_station_14 rfl ?_ ?_
    · refine J_wid (k := 0) (n := 0) (Nat.le_of_ble_eq_true rfl) (Nat.le_of_ble_eq_true rfl) ?_
      refine J_keep [true, true, true, true, false, false, false] rfl ?_
      exact j_H_station_29 E _ _ _ _ _
    · refine J_iload_n zd_H_station_17 rfl ?_
      refine J_iconst (v := 1) zd_H_station_18 (by decide) ?_
      refine J_icmp_eq (tgt := 29) zd_H_station_19 rfl ?_ ?_
      · refine J_wid (k := 0) (n := 0) (Nat.le_of_ble_eq_true rfl) (Nat.le_of_ble_eq_true rfl) ?_
        refine J_keep [true, true, true, true, false, false, false] rfl ?_
        exact j_H_station_29 E _ _ _ _ _
      · refine J_aload_n zd_H_station_22 rfl ?_
        refine J_bipush (v := (-2)) zd_H_station_23 (by decide) ?_
        refine J_callVi (ci := 9) (as := [.inl _]) zd_H_station_25 zm_H_refuse ⟨Nat.le_of_ble_eq_true rfl, Nat.le_of_ble_eq_true rfl⟩ zw_214 zw_216 zs_0 (by decide) rfl rfl (Nat.le_of_ble_eq_true rfl) ⟨Nat.le_of_ble_eq_true rfl, Nat.le_of_ble_eq_true rfl⟩ rfl rfl (c_H_refuse E _ _ _) (fun v12 μ11 => ?_)
        exact J_iret zd_H_station_28 rfl (Nat.le_of_ble_eq_true rfl) (Nat.le_of_ble_eq_true rfl)
  · refine J_aload_n zd_H_station_7 rfl ?_
    refine J_iconst (v := (-1)) zd_H_station_8 (by decide) ?_
    refine J_callVi (ci := 9) (as := [.inl _]) zd_H_station_9 zm_H_refuse ⟨Nat.le_of_ble_eq_true rfl, Nat.le_of_ble_eq_true rfl⟩ zw_214 zw_216 zs_0 (by decide) rfl rfl (Nat.le_of_ble_eq_true rfl) ⟨Nat.le_of_ble_eq_true rfl, Nat.le_of_ble_eq_true rfl⟩ rfl rfl (c_H_refuse E _ _ _) (fun v14 μ13 => ?_)
    exact J_iret zd_H_station_12 rfl (Nat.le_of_ble_eq_true rfl) (Nat.le_of_ble_eq_true rfl)
def b_H_person_21  (a0 : Nat)  (μ : Mem) : Option (LV × Mem) := cV 9 a0 μ (bI (f_H_refuse a0 (-4) μ) (fun v2 μ1 => (some (.inl v2, μ1))))
set_option maxRecDepth 20000 in
theorem j_H_person_21 (E : EV) (a0 : Nat)  (μ : Mem)  : J E I_H_person (rmk 8 4 86) (QR E I_H_person (rmk 8 4 86)) 0 0 μ 21 [some (.inr a0), none, none, none] [] (b_H_person_21 a0 μ) := by
  unfold b_H_person_21
  refine J_aload_n zd_H_person_21 rfl ?_
  refine J_bipush (v := (-4)) zd_H_person_22 (by decide) ?_
  refine J_callVi (ci := 9) (as := [.inl _]) zd_H_person_24 zm_H_refuse ⟨Nat.le_of_ble_eq_true rfl, Nat.le_of_ble_eq_true rfl⟩ zw_214 zw_216 zs_0 (by decide) rfl rfl (Nat.le_of_ble_eq_true rfl) ⟨Nat.le_of_ble_eq_true rfl, Nat.le_of_ble_eq_true rfl⟩ rfl rfl (c_H_refuse E _ _ _) (fun v2 μ1 => ?_)
  exact J_iret zd_H_person_27 rfl (Nat.le_of_ble_eq_true rfl) (Nat.le_of_ble_eq_true rfl)
def b_H_person_53  (a0 : Nat)  (μ : Mem) : Option (LV × Mem) := cV 9 a0 μ (bI (f_H_refuse a0 (-6) μ) (fun v4 μ3 => (some (.inl v4, μ3))))
set_option maxRecDepth 20000 in
theorem j_H_person_53 (E : EV) (a0 : Nat)  (μ : Mem)  : J E I_H_person (rmk 8 4 86) (QR E I_H_person (rmk 8 4 86)) 0 0 μ 53 [some (.inr a0), none, none, none] [] (b_H_person_53 a0 μ) := by
  unfold b_H_person_53
  refine J_aload_n zd_H_person_53 rfl ?_
  refine J_bipush (v := (-6)) zd_H_person_54 (by decide) ?_
  refine J_callVi (ci := 9) (as := [.inl _]) zd_H_person_56 zm_H_refuse ⟨Nat.le_of_ble_eq_true rfl, Nat.le_of_ble_eq_true rfl⟩ zw_214 zw_216 zs_0 (by decide) rfl rfl (Nat.le_of_ble_eq_true rfl) ⟨Nat.le_of_ble_eq_true rfl, Nat.le_of_ble_eq_true rfl⟩ rfl rfl (c_H_refuse E _ _ _) (fun v4 μ3 => ?_)
  exact J_iret zd_H_person_59 rfl (Nat.le_of_ble_eq_true rfl) (Nat.le_of_ble_eq_true rfl)
def f_H_person (a0 : Nat) (a1 : Int32) (a2 : Int32) (a3 : Int32) (μ : Mem) : Option (LV × Mem) := bI (f_H_isStation a1 μ) (fun v6 μ5 => (if v6 = 0 then cV 9 a0 μ5 (bI (f_H_refuse a0 (-1) μ5) (fun v20 μ19 => (some (.inl v20, μ19)))) else (if a2 < 0 then (b_H_person_21 a0 μ5) else (if 0 ≤ a3 then (if 15 < a2 then (b_H_person_53 a0 μ5) else (if 200 < a3 then (b_H_person_53 a0 μ5) else gR 9 a0 2 μ5 (fun r7 => cV 11 r7 μ5 (bI (f_AL_size r7 μ5) (fun v9 μ8 => (if v9 < 40 then gR 9 a0 2 μ8 (fun r10 => nO μ8 (9, 0) (fun h11 μ12 => cN h11 (bV (f_Q_init h11 a1 a2 a3 μ12) (fun μ13 => cV 11 r10 μ13 (bI (f_AL_add1 r10 h11 μ13) (fun v15 μ14 => gR 9 a0 2 μ14 (fun r16 => cV 11 r16 μ14 (bI (f_AL_size r16 μ14) (fun v18 μ17 => (some (.inl (v18 - 1), μ17))))))))))) else (b_H_person_53 a0 μ8))))))) else (b_H_person_21 a0 μ5)))))
set_option maxRecDepth 20000 in
theorem c_H_person (E : EV) (a0 : Nat) (a1 : Int32) (a2 : Int32) (a3 : Int32) (μ : Mem) : Ct E I_H_person (rmk 8 4 86) [.inr a0, .inl a1, .inl a2, .inl a3] μ (f_H_person a0 a1 a2 a3 μ) := by
  refine Ct.of (k := 0) (by decide +kernel) rfl ?_
  show J E I_H_person (rmk 8 4 86) (QR E I_H_person (rmk 8 4 86)) 0 0 μ 0 [some (.inr a0), some (.inl a1), some (.inl a2), some (.inl a3)] [] (f_H_person a0 a1 a2 a3 μ)
  unfold f_H_person
  refine J_iload_n zd_H_person_0 rfl ?_
  refine J_callSi (as := [.inl _]) zd_H_person_1 zm_H_isStation ⟨Nat.le_of_ble_eq_true rfl, Nat.le_of_ble_eq_true rfl⟩ zw_211 zw_212 rfl (Nat.le_of_ble_eq_true rfl) ⟨Nat.le_of_ble_eq_true rfl, Nat.le_of_ble_eq_true rfl⟩ rfl rfl (c_H_isStation E _ _) (fun v6 μ5 => ?_)
  refine J_if_ne (tgt := 13) zd_H_person_4 rfl ?_ ?_
  · refine J_iload_n zd_H_person_13 rfl ?_
    refine J_if_lt (tgt := 21) zd_H_person_14 rfl ?_ ?_
    · refine J_wid (k := 0) (n := 0) (Nat.le_of_ble_eq_true rfl) (Nat.le_of_ble_eq_true rfl) ?_
      refine J_keep [true, false, false, false] rfl ?_
      exact j_H_person_21 E _ _
    · refine J_iload_n zd_H_person_17 rfl ?_
      refine J_if_ge (tgt := 28) zd_H_person_18 rfl ?_ ?_
      · refine J_iload_n zd_H_person_28 rfl ?_
        refine J_bipush (v := 15) zd_H_person_29 (by decide) ?_
        refine J_icmp_gt (tgt := 53) zd_H_person_31 rfl ?_ ?_
        · refine J_wid (k := 0) (n := 0) (Nat.le_of_ble_eq_true rfl) (Nat.le_of_ble_eq_true rfl) ?_
          refine J_keep [true, false, false, false] rfl ?_
          exact j_H_person_53 E _ _
        · refine J_iload_n zd_H_person_34 rfl ?_
          refine J_sipush (v := 200) zd_H_person_35 (by decide) ?_
          refine J_icmp_gt (tgt := 53) zd_H_person_38 rfl ?_ ?_
          · refine J_wid (k := 0) (n := 0) (Nat.le_of_ble_eq_true rfl) (Nat.le_of_ble_eq_true rfl) ?_
            refine J_keep [true, false, false, false] rfl ?_
            exact j_H_person_53 E _ _
          · refine J_aload_n zd_H_person_41 rfl ?_
            refine J_gR zd_H_person_42 zf_H_19 rfl (fun r7 => ?_)
            refine J_callVi (ci := 11) (as := []) zd_H_person_45 zm_AL_size ⟨Nat.le_of_ble_eq_true rfl, Nat.le_of_ble_eq_true rfl⟩ zw_225 zw_226 zw_227 (by decide) rfl rfl (Nat.le_of_ble_eq_true rfl) ⟨Nat.le_of_ble_eq_true rfl, Nat.le_of_ble_eq_true rfl⟩ rfl rfl (c_AL_size E _ _) (fun v9 μ8 => ?_)
            refine J_bipush (v := 40) zd_H_person_48 (by decide) ?_
            refine J_icmp_lt (tgt := 60) zd_H_person_50 rfl ?_ ?_
            · refine J_aload_n zd_H_person_60 rfl ?_
              refine J_gR zd_H_person_61 zf_H_19 rfl (fun r10 => ?_)
              refine J_new (ci := 6) zd_H_person_64 ⟨rfl, zi_Q, zt_Q, zv_Q, zw_229, zw_230, zw_12⟩ (Nat.le_of_ble_eq_true rfl) (Nat.le_of_ble_eq_true rfl) (fun h11 μ12 => ?_)
              refine J_dup zd_H_person_67 ?_
              refine J_iload_n zd_H_person_68 rfl ?_
              refine J_iload_n zd_H_person_69 rfl ?_
              refine J_iload_n zd_H_person_70 rfl ?_
              refine J_callI (as := [.inl _, .inl _, .inl _]) zd_H_person_71 zm_Q_init ⟨Nat.le_of_ble_eq_true rfl, Nat.le_of_ble_eq_true rfl⟩ zw_231 zw_232 rfl rfl (Nat.le_of_ble_eq_true rfl) ⟨Nat.le_of_ble_eq_true rfl, Nat.le_of_ble_eq_true rfl⟩ rfl rfl (c_Q_init E _ _ _ _ _) (fun μ13 => ?_)
              refine J_callVi (ci := 11) (as := [.inr _]) zd_H_person_74 zm_AL_add1 ⟨Nat.le_of_ble_eq_true rfl, Nat.le_of_ble_eq_true rfl⟩ zw_260 zw_261 zw_262 (by decide) rfl rfl (Nat.le_of_ble_eq_true rfl) ⟨Nat.le_of_ble_eq_true rfl, Nat.le_of_ble_eq_true rfl⟩ rfl rfl (c_AL_add1 E _ _ _) (fun v15 μ14 => ?_)
              refine J_pop zd_H_person_77 ?_
              refine J_aload_n zd_H_person_78 rfl ?_
              refine J_gR zd_H_person_79 zf_H_19 rfl (fun r16 => ?_)
              refine J_callVi (ci := 11) (as := []) zd_H_person_82 zm_AL_size ⟨Nat.le_of_ble_eq_true rfl, Nat.le_of_ble_eq_true rfl⟩ zw_225 zw_226 zw_227 (by decide) rfl rfl (Nat.le_of_ble_eq_true rfl) ⟨Nat.le_of_ble_eq_true rfl, Nat.le_of_ble_eq_true rfl⟩ rfl rfl (c_AL_size E _ _) (fun v18 μ17 => ?_)
              refine J_iconst (v := 1) zd_H_person_85 (by decide) ?_
              refine J_isub zd_H_person_86 ?_
              exact J_iret zd_H_person_87 rfl (Nat.le_of_ble_eq_true rfl) (Nat.le_of_ble_eq_true rfl)
            · refine J_wid (k := 0) (n := 0) (Nat.le_of_ble_eq_true rfl) (Nat.le_of_ble_eq_true rfl) ?_
              refine J_keep [true, false, false, false] rfl ?_
              exact j_H_person_53 E _ _
      · refine J_wid (k := 0) (n := 0) (Nat.le_of_ble_eq_true rfl) (Nat.le_of_ble_eq_true rfl) ?_
        refine J_keep [true, false, false, false] rfl ?_
        exact j_H_person_21 E _ _
  · refine J_aload_n zd_H_person_7 rfl ?_
    refine J_iconst (v := (-1)) zd_H_person_8 (by decide) ?_
    refine J_callVi (ci := 9) (as := [.inl _]) zd_H_person_9 zm_H_refuse ⟨Nat.le_of_ble_eq_true rfl, Nat.le_of_ble_eq_true rfl⟩ zw_214 zw_216 zs_0 (by decide) rfl rfl (Nat.le_of_ble_eq_true rfl) ⟨Nat.le_of_ble_eq_true rfl, Nat.le_of_ble_eq_true rfl⟩ rfl rfl (c_H_refuse E _ _ _) (fun v20 μ19 => ?_)
    exact J_iret zd_H_person_12 rfl (Nat.le_of_ble_eq_true rfl) (Nat.le_of_ble_eq_true rfl)
def f_H_personAt (a0 : Nat) (a1 : Int32) (μ : Mem) : Option (LV × Mem) := (if a1 < 0 then (some (.inr 0, μ)) else gR 9 a0 2 μ (fun r1 => cV 11 r1 μ (bI (f_AL_size r1 μ) (fun v3 μ2 => (if v3 ≤ a1 then (some (.inr 0, μ2)) else gR 9 a0 2 μ2 (fun r4 => cV 11 r4 μ2 (bR (f_AL_get r4 a1 μ2) (fun r6 μ5 => cC 6 r6 μ5 ((some (.inr r6, μ5)))))))))))
set_option maxRecDepth 20000 in
theorem c_H_personAt (E : EV) (a0 : Nat) (a1 : Int32) (μ : Mem) : Ct E I_H_personAt (rmk 4 0 0) [.inr a0, .inl a1] μ (f_H_personAt a0 a1 μ) := by
  refine Ct.of (k := 0) (by decide +kernel) rfl ?_
  show J E I_H_personAt (rmk 4 0 0) (QR E I_H_personAt (rmk 4 0 0)) 0 0 μ 0 [some (.inr a0), some (.inl a1)] [] (f_H_personAt a0 a1 μ)
  unfold f_H_personAt
  refine J_iload_n zd_H_personAt_0 rfl ?_
  refine J_if_lt (tgt := 29) zd_H_personAt_1 rfl ?_ ?_
  · refine J_null zd_H_personAt_29 ?_
    exact J_aret zd_H_personAt_30 rfl (Or.inl ⟨_, rfl⟩) (Nat.le_of_ble_eq_true rfl) (Nat.le_of_ble_eq_true rfl)
  · refine J_iload_n zd_H_personAt_4 rfl ?_
    refine J_aload_n zd_H_personAt_5 rfl ?_
    refine J_gR zd_H_personAt_6 zf_H_19 rfl (fun r1 => ?_)
    refine J_callVi (ci := 11) (as := []) zd_H_personAt_9 zm_AL_size ⟨Nat.le_of_ble_eq_true rfl, Nat.le_of_ble_eq_true rfl⟩ zw_225 zw_226 zw_227 (by decide) rfl rfl (Nat.le_of_ble_eq_true rfl) ⟨Nat.le_of_ble_eq_true rfl, Nat.le_of_ble_eq_true rfl⟩ rfl rfl (c_AL_size E _ _) (fun v3 μ2 => ?_)
    refine J_icmp_ge (tgt := 29) zd_H_personAt_12 rfl ?_ ?_
    · refine J_null zd_H_personAt_29 ?_
      exact J_aret zd_H_personAt_30 rfl (Or.inl ⟨_, rfl⟩) (Nat.le_of_ble_eq_true rfl) (Nat.le_of_ble_eq_true rfl)
    · refine J_aload_n zd_H_personAt_15 rfl ?_
      refine J_gR zd_H_personAt_16 zf_H_19 rfl (fun r4 => ?_)
      refine J_iload_n zd_H_personAt_19 rfl ?_
      refine J_callVr (ci := 11) (as := [.inl _]) zd_H_personAt_20 zm_AL_get ⟨Nat.le_of_ble_eq_true rfl, Nat.le_of_ble_eq_true rfl⟩ zw_327 zw_328 zw_329 (by decide) rfl rfl (Nat.le_of_ble_eq_true rfl) ⟨Nat.le_of_ble_eq_true rfl, Nat.le_of_ble_eq_true rfl⟩ rfl rfl (c_AL_get E _ _ _) (fun r6 μ5 => ?_)
      refine J_cast (ci := 6) zd_H_personAt_23 (by decide) rfl zw_229 ?_
      refine J_goto (tgt := 30) zd_H_personAt_26 rfl ?_
      exact J_aret zd_H_personAt_30 rfl (Or.inl ⟨_, rfl⟩) (Nat.le_of_ble_eq_true rfl) (Nat.le_of_ble_eq_true rfl)
def f_H_papers (a0 : Nat) (a1 : Int32) (a2 : Int32) (μ : Mem) : Option (LV × Mem) := cV 9 a0 μ (bR (f_H_personAt a0 a1 μ) (fun r2 μ1 => (if r2 = 0 then cV 9 a0 μ1 (bI (f_H_refuse a0 (-1) μ1) (fun v10 μ9 => (some (.inl v10, μ9)))) else bI (f_H_outside a2 0 200 μ1) (fun v4 μ3 => (if v4 = 0 then gI 6 r2 4 μ3 (fun v5 => pI 6 r2 4 a2 μ3 (fun μ6 => (some (.inl v5, μ6)))) else cV 9 a0 μ3 (bI (f_H_refuse a0 v4 μ3) (fun v8 μ7 => (some (.inl v8, μ7)))))))))
set_option maxRecDepth 20000 in
theorem c_H_papers (E : EV) (a0 : Nat) (a1 : Int32) (a2 : Int32) (μ : Mem) : Ct E I_H_papers (rmk 5 0 0) [.inr a0, .inl a1, .inl a2] μ (f_H_papers a0 a1 a2 μ) := by
  refine Ct.of (k := 3) (by decide +kernel) rfl ?_
  show J E I_H_papers (rmk 5 0 0) (QR E I_H_papers (rmk 5 0 0)) 0 0 μ 0 [some (.inr a0), some (.inl a1), some (.inl a2), none, none, none] [] (f_H_papers a0 a1 a2 μ)
  unfold f_H_papers
  refine J_aload_n zd_H_papers_0 rfl ?_
  refine J_iload_n zd_H_papers_1 rfl ?_
  refine J_callVr (ci := 9) (as := [.inl _]) zd_H_papers_2 zm_H_personAt ⟨Nat.le_of_ble_eq_true rfl, Nat.le_of_ble_eq_true rfl⟩ zw_323 zw_325 zs_4 (by decide) rfl rfl (Nat.le_of_ble_eq_true rfl) ⟨Nat.le_of_ble_eq_true rfl, Nat.le_of_ble_eq_true rfl⟩ rfl rfl (c_H_personAt E _ _ _) (fun r2 μ1 => ?_)
  refine J_astore_n (lv' := [some _, some _, some _, some _, none, none]) zd_H_papers_5 (Nat.le_of_ble_eq_true rfl) rfl ?_
  refine J_aload_n zd_H_papers_6 rfl ?_
  refine J_ifnonnull (tgt := 16) zd_H_papers_7 rfl ?_ ?_
  · refine J_iload_n zd_H_papers_16 rfl ?_
    refine J_iconst (v := 0) zd_H_papers_17 (by decide) ?_
    refine J_sipush (v := 200) zd_H_papers_18 (by decide) ?_
    refine J_callSi (as := [.inl _, .inl _, .inl _]) zd_H_papers_21 zm_H_outside ⟨Nat.le_of_ble_eq_true rfl, Nat.le_of_ble_eq_true rfl⟩ zw_218 zw_219 rfl (Nat.le_of_ble_eq_true rfl) ⟨Nat.le_of_ble_eq_true rfl, Nat.le_of_ble_eq_true rfl⟩ rfl rfl (c_H_outside E _ _ _ _) (fun v4 μ3 => ?_)
    refine J_istore (lv' := [some _, some _, some _, some _, some _, none]) zd_H_papers_24 (Nat.le_of_ble_eq_true rfl) rfl ?_
    refine J_iload zd_H_papers_26 rfl ?_
    refine J_if_eq (tgt := 38) zd_H_papers_28 rfl ?_ ?_
    · refine J_aload_n zd_H_papers_38 rfl ?_
      refine J_gI zd_H_papers_39 zf_H_108 rfl (fun v5 => ?_)
      refine J_istore (lv' := [some _, some _, some _, some _, some _, some _]) zd_H_papers_42 (Nat.le_of_ble_eq_true rfl) rfl ?_
      refine J_aload_n zd_H_papers_44 rfl ?_
      refine J_iload_n zd_H_papers_45 rfl ?_
      refine J_pI zd_H_papers_46 zf_H_108 ⟨zt_Q, zn_Q, Or.inl rfl⟩ rfl rfl (fun μ6 => ?_)
      refine J_iload zd_H_papers_49 rfl ?_
      exact J_iret zd_H_papers_51 rfl (Nat.le_of_ble_eq_true rfl) (Nat.le_of_ble_eq_true rfl)
    · refine J_aload_n zd_H_papers_31 rfl ?_
      refine J_iload zd_H_papers_32 rfl ?_
      refine J_callVi (ci := 9) (as := [.inl _]) zd_H_papers_34 zm_H_refuse ⟨Nat.le_of_ble_eq_true rfl, Nat.le_of_ble_eq_true rfl⟩ zw_214 zw_216 zs_0 (by decide) rfl rfl (Nat.le_of_ble_eq_true rfl) ⟨Nat.le_of_ble_eq_true rfl, Nat.le_of_ble_eq_true rfl⟩ rfl rfl (c_H_refuse E _ _ _) (fun v8 μ7 => ?_)
      exact J_iret zd_H_papers_37 rfl (Nat.le_of_ble_eq_true rfl) (Nat.le_of_ble_eq_true rfl)
  · refine J_aload_n zd_H_papers_10 rfl ?_
    refine J_iconst (v := (-1)) zd_H_papers_11 (by decide) ?_
    refine J_callVi (ci := 9) (as := [.inl _]) zd_H_papers_12 zm_H_refuse ⟨Nat.le_of_ble_eq_true rfl, Nat.le_of_ble_eq_true rfl⟩ zw_214 zw_216 zs_0 (by decide) rfl rfl (Nat.le_of_ble_eq_true rfl) ⟨Nat.le_of_ble_eq_true rfl, Nat.le_of_ble_eq_true rfl⟩ rfl rfl (c_H_refuse E _ _ _) (fun v10 μ9 => ?_)
    exact J_iret zd_H_papers_15 rfl (Nat.le_of_ble_eq_true rfl) (Nat.le_of_ble_eq_true rfl)
def f_H_bandNow (a0 : Nat) (μ : Mem) : Option (LV × Mem) := gI 9 a0 12 μ (fun v1 => nm (v1 / 60) (fun v2 => nm ((irm v2 24) / 6) (fun v3 => (if (irm (v2 / 24) 7) < 5 then (some (.inl v3, μ)) else (some (.inl (v3 + 4), μ))))))
set_option maxRecDepth 20000 in
theorem c_H_bandNow (E : EV) (a0 : Nat) (μ : Mem) : Ct E I_H_bandNow (rmk 1 0 0) [.inr a0] μ (f_H_bandNow a0 μ) := by
  refine Ct.of (k := 2) (by decide +kernel) rfl ?_
  show J E I_H_bandNow (rmk 1 0 0) (QR E I_H_bandNow (rmk 1 0 0)) 0 0 μ 0 [some (.inr a0), none, none] [] (f_H_bandNow a0 μ)
  unfold f_H_bandNow
  refine J_aload_n zd_H_bandNow_0 rfl ?_
  refine J_gI zd_H_bandNow_1 zf_H_70 rfl (fun v1 => ?_)
  refine J_bipush (v := 60) zd_H_bandNow_4 (by decide) ?_
  refine J_idivL zd_H_bandNow_6 (by decide) ?_
  refine J_nm (fun v2 => ?_)
  refine J_istore_n (lv' := [some _, some _, none]) zd_H_bandNow_7 (Nat.le_of_ble_eq_true rfl) rfl ?_
  refine J_iload_n zd_H_bandNow_8 rfl ?_
  refine J_bipush (v := 24) zd_H_bandNow_9 (by decide) ?_
  refine J_iremL zd_H_bandNow_11 (by decide) ?_
  refine J_bipush (v := 6) zd_H_bandNow_12 (by decide) ?_
  refine J_idivL zd_H_bandNow_14 (by decide) ?_
  refine J_nm (fun v3 => ?_)
  refine J_istore_n (lv' := [some _, some _, some _]) zd_H_bandNow_15 (Nat.le_of_ble_eq_true rfl) rfl ?_
  refine J_iload_n zd_H_bandNow_16 rfl ?_
  refine J_bipush (v := 24) zd_H_bandNow_17 (by decide) ?_
  refine J_idivL zd_H_bandNow_19 (by decide) ?_
  refine J_bipush (v := 7) zd_H_bandNow_20 (by decide) ?_
  refine J_iremL zd_H_bandNow_22 (by decide) ?_
  refine J_iconst (v := 5) zd_H_bandNow_23 (by decide) ?_
  refine J_icmp_lt (tgt := 33) zd_H_bandNow_24 rfl ?_ ?_
  · refine J_iload_n zd_H_bandNow_33 rfl ?_
    exact J_iret zd_H_bandNow_34 rfl (Nat.le_of_ble_eq_true rfl) (Nat.le_of_ble_eq_true rfl)
  · refine J_iload_n zd_H_bandNow_27 rfl ?_
    refine J_iconst (v := 4) zd_H_bandNow_28 (by decide) ?_
    refine J_iadd zd_H_bandNow_29 ?_
    refine J_goto (tgt := 34) zd_H_bandNow_30 rfl ?_
    exact J_iret zd_H_bandNow_34 rfl (Nat.le_of_ble_eq_true rfl) (Nat.le_of_ble_eq_true rfl)
def b_H_page_68  (a3 : Nat) (a4 : Int32)  (μ : Mem) : Option (LV × Mem) := gR 6 a3 2 μ (fun r1 => aI r1 a4 μ (fun v2 => (some (.inl v2, μ))))
set_option maxRecDepth 20000 in
theorem j_H_page_68 (E : EV) (a3 : Nat) (a4 : Int32)  (μ : Mem)  : J E I_H_page (rmk 5 0 0) (QR E I_H_page (rmk 5 0 0)) 0 0 μ 68 [none, none, none, some (.inr a3), some (.inl a4)] [] (b_H_page_68 a3 a4 μ) := by
  unfold b_H_page_68
  refine J_aload_n zd_H_page_68 rfl ?_
  refine J_gR zd_H_page_69 zf_H_114 rfl (fun r1 => ?_)
  refine J_iload zd_H_page_72 rfl ?_
  refine J_aI zd_H_page_74 (fun v2 => ?_)
  exact J_iret zd_H_page_75 rfl (Nat.le_of_ble_eq_true rfl) (Nat.le_of_ble_eq_true rfl)
def f_H_page (a0 : Nat) (a1 : Int32) (a2 : Int32) (μ : Mem) : Option (LV × Mem) := cV 9 a0 μ (bR (f_H_personAt a0 a1 μ) (fun r4 μ3 => (if r4 = 0 then cV 9 a0 μ3 (bI (f_H_refuse a0 (-1) μ3) (fun v18 μ17 => (some (.inl v18, μ17)))) else cV 9 a0 μ3 (bI (f_H_bandNow a0 μ3) (fun v6 μ5 => gR 6 r4 2 μ5 (fun r7 => aI r7 v6 μ5 (fun v8 => (if v8 < 200 then gR 6 r4 2 μ5 (fun r9 => aI r9 v6 μ5 (fun v10 => aS r9 v6 (v10 + 1) μ5 (fun μ11 => (if a2 = 0 then (b_H_page_68 r4 v6 μ11) else gR 6 r4 3 μ11 (fun r12 => aI r12 v6 μ11 (fun v13 => aS r12 v6 (v13 + 1) μ11 (fun μ14 => (b_H_page_68 r4 v6 μ14)))))))) else cV 9 a0 μ5 (bI (f_H_refuse a0 (-6) μ5) (fun v16 μ15 => (some (.inl v16, μ15))))))))))))
set_option maxRecDepth 20000 in
theorem c_H_page (E : EV) (a0 : Nat) (a1 : Int32) (a2 : Int32) (μ : Mem) : Ct E I_H_page (rmk 5 0 0) [.inr a0, .inl a1, .inl a2] μ (f_H_page a0 a1 a2 μ) := by
  refine Ct.of (k := 2) (by decide +kernel) rfl ?_
  show J E I_H_page (rmk 5 0 0) (QR E I_H_page (rmk 5 0 0)) 0 0 μ 0 [some (.inr a0), some (.inl a1), some (.inl a2), none, none] [] (f_H_page a0 a1 a2 μ)
  unfold f_H_page
  refine J_aload_n zd_H_page_0 rfl ?_
  refine J_iload_n zd_H_page_1 rfl ?_
  refine J_callVr (ci := 9) (as := [.inl _]) zd_H_page_2 zm_H_personAt ⟨Nat.le_of_ble_eq_true rfl, Nat.le_of_ble_eq_true rfl⟩ zw_323 zw_325 zs_4 (by decide) rfl rfl (Nat.le_of_ble_eq_true rfl) ⟨Nat.le_of_ble_eq_true rfl, Nat.le_of_ble_eq_true rfl⟩ rfl rfl (c_H_personAt E _ _ _) (fun r4 μ3 => ?_)
  refine J_astore_n (lv' := [some _, some _, some _, some _, none]) zd_H_page_5 (Nat.le_of_ble_eq_true rfl) rfl ?_
  refine J_aload_n zd_H_page_6 rfl ?_
  refine J_ifnonnull (tgt := 16) zd_H_page_7 rfl ?_ ?_
  · refine J_aload_n zd_H_page_16 rfl ?_
    refine J_callVi (ci := 9) (as := []) zd_H_page_17 zm_H_bandNow ⟨Nat.le_of_ble_eq_true rfl, Nat.le_of_ble_eq_true rfl⟩ zw_345 zw_347 zs_5 (by decide) rfl rfl (Nat.le_of_ble_eq_true rfl) ⟨Nat.le_of_ble_eq_true rfl, Nat.le_of_ble_eq_true rfl⟩ rfl rfl (c_H_bandNow E _ _) (fun v6 μ5 => ?_)
    refine J_istore (lv' := [some _, some _, some _, some _, some _]) zd_H_page_20 (Nat.le_of_ble_eq_true rfl) rfl ?_
    refine J_aload_n zd_H_page_22 rfl ?_
    refine J_gR zd_H_page_23 zf_H_114 rfl (fun r7 => ?_)
    refine J_iload zd_H_page_26 rfl ?_
    refine J_aI zd_H_page_28 (fun v8 => ?_)
    refine J_sipush (v := 200) zd_H_page_29 (by decide) ?_
    refine J_icmp_lt (tgt := 42) zd_H_page_32 rfl ?_ ?_
    · refine J_aload_n zd_H_page_42 rfl ?_
      refine J_gR zd_H_page_43 zf_H_114 rfl (fun r9 => ?_)
      refine J_iload zd_H_page_46 rfl ?_
      refine J_dup2 zd_H_page_48 ?_
      refine J_aI zd_H_page_49 (fun v10 => ?_)
      refine J_iconst (v := 1) zd_H_page_50 (by decide) ?_
      refine J_iadd zd_H_page_51 ?_
      refine J_aS zd_H_page_52 (fun μ11 => ?_)
      refine J_iload_n zd_H_page_53 rfl ?_
      refine J_if_eq (tgt := 68) zd_H_page_54 rfl ?_ ?_
      · refine J_wid (k := 0) (n := 0) (Nat.le_of_ble_eq_true rfl) (Nat.le_of_ble_eq_true rfl) ?_
        refine J_keep [false, false, false, true, true] rfl ?_
        exact j_H_page_68 E _ _ _
      · refine J_aload_n zd_H_page_57 rfl ?_
        refine J_gR zd_H_page_58 zf_H_117 rfl (fun r12 => ?_)
        refine J_iload zd_H_page_61 rfl ?_
        refine J_dup2 zd_H_page_63 ?_
        refine J_aI zd_H_page_64 (fun v13 => ?_)
        refine J_iconst (v := 1) zd_H_page_65 (by decide) ?_
        refine J_iadd zd_H_page_66 ?_
        refine J_aS zd_H_page_67 (fun μ14 => ?_)
        refine J_wid (k := 0) (n := 0) (Nat.le_of_ble_eq_true rfl) (Nat.le_of_ble_eq_true rfl) ?_
        refine J_keep [false, false, false, true, true] rfl ?_
        exact j_H_page_68 E _ _ _
    · refine J_aload_n zd_H_page_35 rfl ?_
      refine J_bipush (v := (-6)) zd_H_page_36 (by decide) ?_
      refine J_callVi (ci := 9) (as := [.inl _]) zd_H_page_38 zm_H_refuse ⟨Nat.le_of_ble_eq_true rfl, Nat.le_of_ble_eq_true rfl⟩ zw_214 zw_216 zs_0 (by decide) rfl rfl (Nat.le_of_ble_eq_true rfl) ⟨Nat.le_of_ble_eq_true rfl, Nat.le_of_ble_eq_true rfl⟩ rfl rfl (c_H_refuse E _ _ _) (fun v16 μ15 => ?_)
      exact J_iret zd_H_page_41 rfl (Nat.le_of_ble_eq_true rfl) (Nat.le_of_ble_eq_true rfl)
  · refine J_aload_n zd_H_page_10 rfl ?_
    refine J_iconst (v := (-1)) zd_H_page_11 (by decide) ?_
    refine J_callVi (ci := 9) (as := [.inl _]) zd_H_page_12 zm_H_refuse ⟨Nat.le_of_ble_eq_true rfl, Nat.le_of_ble_eq_true rfl⟩ zw_214 zw_216 zs_0 (by decide) rfl rfl (Nat.le_of_ble_eq_true rfl) ⟨Nat.le_of_ble_eq_true rfl, Nat.le_of_ble_eq_true rfl⟩ rfl rfl (c_H_refuse E _ _ _) (fun v18 μ17 => ?_)
    exact J_iret zd_H_page_15 rfl (Nat.le_of_ble_eq_true rfl) (Nat.le_of_ble_eq_true rfl)
def f_H_isBand (a0 : Int32) (μ : Mem) : Option (LV × Mem) := (if a0 < 0 then (some (.inl 0, μ)) else (if 8 ≤ a0 then (some (.inl 0, μ)) else (some (.inl 1, μ))))
set_option maxRecDepth 20000 in
theorem c_H_isBand (E : EV) (a0 : Int32) (μ : Mem) : Ct E I_H_isBand (rmk 1 0 0) [.inl a0] μ (f_H_isBand a0 μ) := by
  refine Ct.of (k := 0) (by decide +kernel) rfl ?_
  show J E I_H_isBand (rmk 1 0 0) (QR E I_H_isBand (rmk 1 0 0)) 0 0 μ 0 [some (.inl a0)] [] (f_H_isBand a0 μ)
  unfold f_H_isBand
  refine J_iload_n zd_H_isBand_0 rfl ?_
  refine J_if_lt (tgt := 14) zd_H_isBand_1 rfl ?_ ?_
  · refine J_iconst (v := 0) zd_H_isBand_14 (by decide) ?_
    exact J_zret zd_H_isBand_15 rfl rfl (Nat.le_of_ble_eq_true rfl) (Nat.le_of_ble_eq_true rfl)
  · refine J_iload_n zd_H_isBand_4 rfl ?_
    refine J_bipush (v := 8) zd_H_isBand_5 (by decide) ?_
    refine J_icmp_ge (tgt := 14) zd_H_isBand_7 rfl ?_ ?_
    · refine J_iconst (v := 0) zd_H_isBand_14 (by decide) ?_
      exact J_zret zd_H_isBand_15 rfl rfl (Nat.le_of_ble_eq_true rfl) (Nat.le_of_ble_eq_true rfl)
    · refine J_iconst (v := 1) zd_H_isBand_10 (by decide) ?_
      refine J_goto (tgt := 15) zd_H_isBand_11 rfl ?_
      exact J_zret zd_H_isBand_15 rfl rfl (Nat.le_of_ble_eq_true rfl) (Nat.le_of_ble_eq_true rfl)
def b_H_partOf_17  (a0 : Nat)  (μ : Mem) : Option (LV × Mem) := cV 9 a0 μ (bI (f_H_refuse a0 (-1) μ) (fun v2 μ1 => (some (.inl v2, μ1))))
set_option maxRecDepth 20000 in
theorem j_H_partOf_17 (E : EV) (a0 : Nat)  (μ : Mem)  : J E I_H_partOf (rmk 5 0 0) (QR E I_H_partOf (rmk 5 0 0)) 0 0 μ 17 [some (.inr a0), none, none, none] [] (b_H_partOf_17 a0 μ) := by
  unfold b_H_partOf_17
  refine J_aload_n zd_H_partOf_17 rfl ?_
  refine J_iconst (v := (-1)) zd_H_partOf_18 (by decide) ?_
  refine J_callVi (ci := 9) (as := [.inl _]) zd_H_partOf_19 zm_H_refuse ⟨Nat.le_of_ble_eq_true rfl, Nat.le_of_ble_eq_true rfl⟩ zw_214 zw_216 zs_0 (by decide) rfl rfl (Nat.le_of_ble_eq_true rfl) ⟨Nat.le_of_ble_eq_true rfl, Nat.le_of_ble_eq_true rfl⟩ rfl rfl (c_H_refuse E _ _ _) (fun v2 μ1 => ?_)
  exact J_iret zd_H_partOf_22 rfl (Nat.le_of_ble_eq_true rfl) (Nat.le_of_ble_eq_true rfl)
def f_H_partOf (a0 : Nat) (a1 : Int32) (a2 : Int32) (μ : Mem) : Option (LV × Mem) := cV 9 a0 μ (bR (f_H_personAt a0 a1 μ) (fun r4 μ3 => (if r4 = 0 then (b_H_partOf_17 a0 μ3) else bI (f_H_isBand a2 μ3) (fun v6 μ5 => (if v6 = 0 then (b_H_partOf_17 a0 μ5) else gI 9 a0 12 μ5 (fun v7 => cV 6 r4 μ5 (bI (f_Q_partIn r4 a2 v7 μ5) (fun v9 μ8 => (some (.inl v9, μ8))))))))))
set_option maxRecDepth 20000 in
theorem c_H_partOf (E : EV) (a0 : Nat) (a1 : Int32) (a2 : Int32) (μ : Mem) : Ct E I_H_partOf (rmk 5 0 0) [.inr a0, .inl a1, .inl a2] μ (f_H_partOf a0 a1 a2 μ) := by
  refine Ct.of (k := 1) (by decide +kernel) rfl ?_
  show J E I_H_partOf (rmk 5 0 0) (QR E I_H_partOf (rmk 5 0 0)) 0 0 μ 0 [some (.inr a0), some (.inl a1), some (.inl a2), none] [] (f_H_partOf a0 a1 a2 μ)
  unfold f_H_partOf
  refine J_aload_n zd_H_partOf_0 rfl ?_
  refine J_iload_n zd_H_partOf_1 rfl ?_
  refine J_callVr (ci := 9) (as := [.inl _]) zd_H_partOf_2 zm_H_personAt ⟨Nat.le_of_ble_eq_true rfl, Nat.le_of_ble_eq_true rfl⟩ zw_323 zw_325 zs_4 (by decide) rfl rfl (Nat.le_of_ble_eq_true rfl) ⟨Nat.le_of_ble_eq_true rfl, Nat.le_of_ble_eq_true rfl⟩ rfl rfl (c_H_personAt E _ _ _) (fun r4 μ3 => ?_)
  refine J_astore_n (lv' := [some _, some _, some _, some _]) zd_H_partOf_5 (Nat.le_of_ble_eq_true rfl) rfl ?_
  refine J_aload_n zd_H_partOf_6 rfl ?_
  refine J_ifnull (tgt := 17) zd_H_partOf_7 rfl ?_ ?_
  · refine J_wid (k := 0) (n := 0) (Nat.le_of_ble_eq_true rfl) (Nat.le_of_ble_eq_true rfl) ?_
    refine J_keep [true, false, false, false] rfl ?_
    exact j_H_partOf_17 E _ _
  · refine J_iload_n zd_H_partOf_10 rfl ?_
    refine J_callSi (as := [.inl _]) zd_H_partOf_11 zm_H_isBand ⟨Nat.le_of_ble_eq_true rfl, Nat.le_of_ble_eq_true rfl⟩ zw_353 zw_354 rfl (Nat.le_of_ble_eq_true rfl) ⟨Nat.le_of_ble_eq_true rfl, Nat.le_of_ble_eq_true rfl⟩ rfl rfl (c_H_isBand E _ _) (fun v6 μ5 => ?_)
    refine J_if_ne (tgt := 23) zd_H_partOf_14 rfl ?_ ?_
    · refine J_aload_n zd_H_partOf_23 rfl ?_
      refine J_iload_n zd_H_partOf_24 rfl ?_
      refine J_aload_n zd_H_partOf_25 rfl ?_
      refine J_gI zd_H_partOf_26 zf_H_70 rfl (fun v7 => ?_)
      refine J_callVi (ci := 6) (as := [.inl _, .inl _]) zd_H_partOf_29 zm_Q_partIn ⟨Nat.le_of_ble_eq_true rfl, Nat.le_of_ble_eq_true rfl⟩ zw_356 zw_357 zw_358 (by decide) rfl rfl (Nat.le_of_ble_eq_true rfl) ⟨Nat.le_of_ble_eq_true rfl, Nat.le_of_ble_eq_true rfl⟩ rfl rfl (c_Q_partIn E _ _ _ _) (fun v9 μ8 => ?_)
      exact J_iret zd_H_partOf_32 rfl (Nat.le_of_ble_eq_true rfl) (Nat.le_of_ble_eq_true rfl)
    · refine J_wid (k := 0) (n := 0) (Nat.le_of_ble_eq_true rfl) (Nat.le_of_ble_eq_true rfl) ?_
      refine J_keep [true, false, false, false] rfl ?_
      exact j_H_partOf_17 E _ _
def b_H_set_63  (a0 : Nat) (a1 : Int32) (a2 : Int32) (s0 : Int32) (μ : Mem) : Option (LV × Mem) := (if a1 = 0 then pI 9 a0 13 a2 μ (fun μ2 => (some (.inl s0, μ2))) else pI 9 a0 14 a2 μ (fun μ1 => (some (.inl s0, μ1))))
set_option maxRecDepth 20000 in
theorem j_H_set_63 (E : EV) (a0 : Nat) (a1 : Int32) (a2 : Int32) (s0 : Int32) (μ : Mem)  : J E I_H_set (rmk 2 0 0) (QR E I_H_set (rmk 2 0 0)) 0 0 μ 63 [some (.inr a0), some (.inl a1), some (.inl a2), none, none] [.inl s0] (b_H_set_63 a0 a1 a2 s0 μ) := by
  unfold b_H_set_63
  refine J_istore (lv' := [some _, some _, some _, none, some _]) zd_H_set_63 (Nat.le_of_ble_eq_true rfl) rfl ?_
  refine J_iload_n zd_H_set_65 rfl ?_
  refine J_if_ne (tgt := 77) zd_H_set_66 rfl ?_ ?_
  · refine J_aload_n zd_H_set_77 rfl ?_
    refine J_iload_n zd_H_set_78 rfl ?_
    refine J_pI zd_H_set_79 zf_H_77 ⟨zt_H, zn_H, Or.inl rfl⟩ rfl rfl (fun μ1 => ?_)
    refine J_iload zd_H_set_82 rfl ?_
    exact J_iret zd_H_set_84 rfl (Nat.le_of_ble_eq_true rfl) (Nat.le_of_ble_eq_true rfl)
  · refine J_aload_n zd_H_set_69 rfl ?_
    refine J_iload_n zd_H_set_70 rfl ?_
    refine J_pI zd_H_set_71 zf_H_74 ⟨zt_H, zn_H, Or.inl rfl⟩ rfl rfl (fun μ2 => ?_)
    refine J_goto (tgt := 82) zd_H_set_74 rfl ?_
    refine J_iload zd_H_set_82 rfl ?_
    exact J_iret zd_H_set_84 rfl (Nat.le_of_ble_eq_true rfl) (Nat.le_of_ble_eq_true rfl)
def b_H_set_37  (a0 : Nat) (a1 : Int32) (a2 : Int32) (s0 : Int32) (μ : Mem) : Option (LV × Mem) := (if s0 = 0 then (if a1 = 0 then gI 9 a0 13 μ (fun v4 => (b_H_set_63 a0 a1 a2 v4 μ)) else gI 9 a0 14 μ (fun v3 => (b_H_set_63 a0 a1 a2 v3 μ))) else cV 9 a0 μ (bI (f_H_refuse a0 s0 μ) (fun v6 μ5 => (some (.inl v6, μ5)))))
set_option maxRecDepth 20000 in
theorem j_H_set_37 (E : EV) (a0 : Nat) (a1 : Int32) (a2 : Int32) (s0 : Int32) (μ : Mem)  : J E I_H_set (rmk 2 0 0) (QR E I_H_set (rmk 2 0 0)) 0 0 μ 37 [some (.inr a0), some (.inl a1), some (.inl a2), none, none] [.inl s0] (b_H_set_37 a0 a1 a2 s0 μ) := by
  unfold b_H_set_37
  refine J_istore_n (lv' := [some _, some _, some _, some _, none]) zd_H_set_37 (Nat.le_of_ble_eq_true rfl) rfl ?_
  refine J_iload_n zd_H_set_38 rfl ?_
  refine J_if_eq (tgt := 48) zd_H_set_39 rfl ?_ ?_
  · refine J_iload_n zd_H_set_48 rfl ?_
    refine J_if_ne (tgt := 59) zd_H_set_49 rfl ?_ ?_
    · refine J_aload_n zd_H_set_59 rfl ?_
      refine J_gI zd_H_set_60 zf_H_77 rfl (fun v3 => ?_)
      refine J_wid (k := 0) (n := 0) (Nat.le_of_ble_eq_true rfl) (Nat.le_of_ble_eq_true rfl) ?_
      refine J_keep [true, true, true, false, false] rfl ?_
      exact j_H_set_63 E _ _ _ _ _
    · refine J_aload_n zd_H_set_52 rfl ?_
      refine J_gI zd_H_set_53 zf_H_74 rfl (fun v4 => ?_)
      refine J_goto (tgt := 63) zd_H_set_56 rfl ?_
      refine J_wid (k := 0) (n := 0) (Nat.le_of_ble_eq_true rfl) (Nat.le_of_ble_eq_true rfl) ?_
      refine J_keep [true, true, true, false, false] rfl ?_
      exact j_H_set_63 E _ _ _ _ _
  · refine J_aload_n zd_H_set_42 rfl ?_
    refine J_iload_n zd_H_set_43 rfl ?_
    refine J_callVi (ci := 9) (as := [.inl _]) zd_H_set_44 zm_H_refuse ⟨Nat.le_of_ble_eq_true rfl, Nat.le_of_ble_eq_true rfl⟩ zw_214 zw_216 zs_0 (by decide) rfl rfl (Nat.le_of_ble_eq_true rfl) ⟨Nat.le_of_ble_eq_true rfl, Nat.le_of_ble_eq_true rfl⟩ rfl rfl (c_H_refuse E _ _ _) (fun v6 μ5 => ?_)
    exact J_iret zd_H_set_47 rfl (Nat.le_of_ble_eq_true rfl) (Nat.le_of_ble_eq_true rfl)
def b_H_set_16  (a0 : Nat) (a1 : Int32) (a2 : Int32)  (μ : Mem) : Option (LV × Mem) := (if a1 = 0 then bI (f_H_outside a2 2 6 μ) (fun v10 μ9 => (b_H_set_37 a0 a1 a2 v10 μ9)) else bI (f_H_outside a2 5 30 μ) (fun v8 μ7 => (b_H_set_37 a0 a1 a2 v8 μ7)))
set_option maxRecDepth 20000 in
theorem j_H_set_16 (E : EV) (a0 : Nat) (a1 : Int32) (a2 : Int32)  (μ : Mem)  : J E I_H_set (rmk 2 0 0) (QR E I_H_set (rmk 2 0 0)) 0 0 μ 16 [some (.inr a0), some (.inl a1), some (.inl a2), none, none] [] (b_H_set_16 a0 a1 a2 μ) := by
  unfold b_H_set_16
  refine J_iload_n zd_H_set_16 rfl ?_
  refine J_if_ne (tgt := 30) zd_H_set_17 rfl ?_ ?_
  · refine J_iload_n zd_H_set_30 rfl ?_
    refine J_iconst (v := 5) zd_H_set_31 (by decide) ?_
    refine J_bipush (v := 30) zd_H_set_32 (by decide) ?_
    refine J_callSi (as := [.inl _, .inl _, .inl _]) zd_H_set_34 zm_H_outside ⟨Nat.le_of_ble_eq_true rfl, Nat.le_of_ble_eq_true rfl⟩ zw_218 zw_219 rfl (Nat.le_of_ble_eq_true rfl) ⟨Nat.le_of_ble_eq_true rfl, Nat.le_of_ble_eq_true rfl⟩ rfl rfl (c_H_outside E _ _ _ _) (fun v8 μ7 => ?_)
    refine J_wid (k := 0) (n := 0) (Nat.le_of_ble_eq_true rfl) (Nat.le_of_ble_eq_true rfl) ?_
    refine J_keep [true, true, true, false, false] rfl ?_
    exact j_H_set_37 E _ _ _ _ _
  · refine J_iload_n zd_H_set_20 rfl ?_
    refine J_iconst (v := 2) zd_H_set_21 (by decide) ?_
    refine J_bipush (v := 6) zd_H_set_22 (by decide) ?_
    refine J_callSi (as := [.inl _, .inl _, .inl _]) zd_H_set_24 zm_H_outside ⟨Nat.le_of_ble_eq_true rfl, Nat.le_of_ble_eq_true rfl⟩ zw_218 zw_219 rfl (Nat.le_of_ble_eq_true rfl) ⟨Nat.le_of_ble_eq_true rfl, Nat.le_of_ble_eq_true rfl⟩ rfl rfl (c_H_outside E _ _ _ _) (fun v10 μ9 => ?_)
    refine J_goto (tgt := 37) zd_H_set_27 rfl ?_
    refine J_wid (k := 0) (n := 0) (Nat.le_of_ble_eq_true rfl) (Nat.le_of_ble_eq_true rfl) ?_
    refine J_keep [true, true, true, false, false] rfl ?_
    exact j_H_set_37 E _ _ _ _ _
def f_H_set (a0 : Nat) (a1 : Int32) (a2 : Int32) (μ : Mem) : Option (LV × Mem) := (if a1 = 0 then (b_H_set_16 a0 a1 a2 μ) else (if a1 = 1 then (b_H_set_16 a0 a1 a2 μ) else cV 9 a0 μ (bI (f_H_refuse a0 (-2) μ) (fun v12 μ11 => (some (.inl v12, μ11))))))
set_option maxRecDepth 20000 in
theorem c_H_set (E : EV) (a0 : Nat) (a1 : Int32) (a2 : Int32) (μ : Mem) : Ct E I_H_set (rmk 2 0 0) [.inr a0, .inl a1, .inl a2] μ (f_H_set a0 a1 a2 μ) := by
  refine Ct.of (k := 2) (by decide +kernel) rfl ?_
  show J E I_H_set (rmk 2 0 0) (QR E I_H_set (rmk 2 0 0)) 0 0 μ 0 [some (.inr a0), some (.inl a1), some (.inl a2), none, none] [] (f_H_set a0 a1 a2 μ)
  unfold f_H_set
  refine J_iload_n zd_H_set_0 rfl ?_
  refine J_if_eq (tgt := 16) zd_H_set_1 rfl ?_ ?_
  · refine J_wid (k := 0) (n := 0) (Nat.le_of_ble_eq_true rfl) (Nat.le_of_ble_eq_true rfl) ?_
    refine J_keep [true, true, true, false, false] rfl ?_
    exact j_H_set_16 E _ _ _ _
  · refine J_iload_n zd_H_set_4 rfl ?_
    refine J_iconst (v := 1) zd_H_set_5 (by decide) ?_
    refine J_icmp_eq (tgt := 16) zd_H_set_6 rfl ?_ ?_
    · refine J_wid (k := 0) (n := 0) (Nat.le_of_ble_eq_true rfl) (Nat.le_of_ble_eq_true rfl) ?_
      refine J_keep [true, true, true, false, false] rfl ?_
      exact j_H_set_16 E _ _ _ _
    · refine J_aload_n zd_H_set_9 rfl ?_
      refine J_bipush (v := (-2)) zd_H_set_10 (by decide) ?_
      refine J_callVi (ci := 9) (as := [.inl _]) zd_H_set_12 zm_H_refuse ⟨Nat.le_of_ble_eq_true rfl, Nat.le_of_ble_eq_true rfl⟩ zw_214 zw_216 zs_0 (by decide) rfl rfl (Nat.le_of_ble_eq_true rfl) ⟨Nat.le_of_ble_eq_true rfl, Nat.le_of_ble_eq_true rfl⟩ rfl rfl (c_H_refuse E _ _ _) (fun v12 μ11 => ?_)
      exact J_iret zd_H_set_15 rfl (Nat.le_of_ble_eq_true rfl) (Nat.le_of_ble_eq_true rfl)
def b_H_crewChance_87 (c9 : Int32 → Mem → Option (LV × Mem)) (a0 : Nat) (a1 : Int32) (a2 : Int32) (a3 : Int32)  (μ : Mem) : Option (LV × Mem) := (c9 (a3 + 1) μ)
set_option maxRecDepth 20000 in
theorem j_H_crewChance_87 (E : EV) (a0 : Nat) (a1 : Int32) (a2 : Int32) (a3 : Int32)  (μ : Mem) {c9 : Int32 → Mem → Option (LV × Mem)} (h9 : ∀ (b3 : Int32)  (μ : Mem), J E I_H_crewChance (rmk 4 0 0) (QR E I_H_crewChance (rmk 4 0 0)) 0 0 μ 9 [some (.inr a0), some (.inl a1), some (.inl a2), some (.inl b3), none, none] [] (c9 b3 μ)) : J E I_H_crewChance (rmk 4 0 0) (QR E I_H_crewChance (rmk 4 0 0)) 0 0 μ 87 [some (.inr a0), some (.inl a1), some (.inl a2), some (.inl a3), none, none] [] (b_H_crewChance_87 c9 a0 a1 a2 a3 μ) := by
  unfold b_H_crewChance_87
  refine J_iinc (v := _ + 1) (lv' := [some _, some _, some _, some _, none, none]) zd_H_crewChance_87 (Nat.le_of_ble_eq_true rfl) rfl (by rfl) rfl ?_
  refine J_goto (tgt := 9) zd_H_crewChance_90 rfl ?_
  refine J_wid (k := 0) (n := 0) (Nat.le_of_ble_eq_true rfl) (Nat.le_of_ble_eq_true rfl) ?_
  refine J_keep [true, true, true, true, false, false] rfl ?_
  exact h9 _ _
def k_H_crewChance_9 (c93 : Nat → Mem → Option (LV × Mem)) (a0 : Nat) (a1 : Int32) (a2 : Int32) : Nat → Int32 → Mem → Option (LV × Mem)
  | 0, _, _ => none
  | n + 1, a3, μ => gR 9 a0 2 μ (fun r1 => cV 11 r1 μ (bI (f_AL_size r1 μ) (fun v3 μ2 => (if v3 ≤ a3 then (c93 a0 μ2) else gR 9 a0 2 μ2 (fun r4 => cV 11 r4 μ2 (bR (f_AL_get r4 a3 μ2) (fun r6 μ5 => cC 6 r6 μ5 (gI 6 r6 0 μ5 (fun v7 => (if v7 = a1 then gI 6 r6 1 μ5 (fun v8 => (if (v8 &&& 7) = 0 then (b_H_crewChance_87 (k_H_crewChance_9 c93 a0 a1 a2 n) a0 a1 a2 a3 μ5) else gI 9 a0 12 μ5 (fun v9 => cV 6 r6 μ5 (bI (f_Q_partIn r6 a2 v9 μ5) (fun v11 μ10 => (if v11 ≤ 0 then (b_H_crewChance_87 (k_H_crewChance_9 c93 a0 a1 a2 n) a0 a1 a2 a3 μ10) else gR 9 a0 7 μ10 (fun r12 => gI 6 r6 1 μ10 (fun v13 => cV 2 r12 μ10 (bV (f_R_mayCome r12 v13 v11 μ10) (fun μ14 => (b_H_crewChance_87 (k_H_crewChance_9 c93 a0 a1 a2 n) a0 a1 a2 a3 μ14))))))))))) else (b_H_crewChance_87 (k_H_crewChance_9 c93 a0 a1 a2 n) a0 a1 a2 a3 μ5)))))))))))
set_option maxRecDepth 20000 in
theorem j_H_crewChance_9 (E : EV) (a0 : Nat) (a1 : Int32) (a2 : Int32) {c93 : Nat → Mem → Option (LV × Mem)} (h93 : ∀ (b0 : Nat)  (μ : Mem), J E I_H_crewChance (rmk 4 0 0) (QR E I_H_crewChance (rmk 4 0 0)) 0 0 μ 93 [some (.inr b0), none, none, none, none, none] [] (c93 b0 μ)) : ∀ (n : Nat) (a3 : Int32) (μ : Mem), J E I_H_crewChance (rmk 4 0 0) (QR E I_H_crewChance (rmk 4 0 0)) 0 0 μ 9 [some (.inr a0), some (.inl a1), some (.inl a2), some (.inl a3), none, none] [] (k_H_crewChance_9 c93 a0 a1 a2 n a3 μ)
  | 0, _, _ => J_none
  | n + 1, a3, μ => by
    show J E I_H_crewChance (rmk 4 0 0) (QR E I_H_crewChance (rmk 4 0 0)) 0 0 μ 9 [some (.inr a0), some (.inl a1), some (.inl a2), some (.inl a3), none, none] [] (gR 9 a0 2 μ (fun r1 => cV 11 r1 μ (bI (f_AL_size r1 μ) (fun v3 μ2 => (if v3 ≤ a3 then (c93 a0 μ2) else gR 9 a0 2 μ2 (fun r4 => cV 11 r4 μ2 (bR (f_AL_get r4 a3 μ2) (fun r6 μ5 => cC 6 r6 μ5 (gI 6 r6 0 μ5 (fun v7 => (if v7 = a1 then gI 6 r6 1 μ5 (fun v8 => (if (v8 &&& 7) = 0 then (b_H_crewChance_87 (k_H_crewChance_9 c93 a0 a1 a2 n) a0 a1 a2 a3 μ5) else gI 9 a0 12 μ5 (fun v9 => cV 6 r6 μ5 (bI (f_Q_partIn r6 a2 v9 μ5) (fun v11 μ10 => (if v11 ≤ 0 then (b_H_crewChance_87 (k_H_crewChance_9 c93 a0 a1 a2 n) a0 a1 a2 a3 μ10) else gR 9 a0 7 μ10 (fun r12 => gI 6 r6 1 μ10 (fun v13 => cV 2 r12 μ10 (bV (f_R_mayCome r12 v13 v11 μ10) (fun μ14 => (b_H_crewChance_87 (k_H_crewChance_9 c93 a0 a1 a2 n) a0 a1 a2 a3 μ14))))))))))) else (b_H_crewChance_87 (k_H_crewChance_9 c93 a0 a1 a2 n) a0 a1 a2 a3 μ5))))))))))))
    refine J_iload_n zd_H_crewChance_9 rfl ?_
    refine J_aload_n zd_H_crewChance_10 rfl ?_
    refine J_gR zd_H_crewChance_11 zf_H_19 rfl (fun r1 => ?_)
    refine J_callVi (ci := 11) (as := []) zd_H_crewChance_14 zm_AL_size ⟨Nat.le_of_ble_eq_true rfl, Nat.le_of_ble_eq_true rfl⟩ zw_225 zw_226 zw_227 (by decide) rfl rfl (Nat.le_of_ble_eq_true rfl) ⟨Nat.le_of_ble_eq_true rfl, Nat.le_of_ble_eq_true rfl⟩ rfl rfl (c_AL_size E _ _) (fun v3 μ2 => ?_)
    refine J_icmp_ge (tgt := 93) zd_H_crewChance_17 rfl ?_ ?_
    · refine J_wid (k := 0) (n := 0) (Nat.le_of_ble_eq_true rfl) (Nat.le_of_ble_eq_true rfl) ?_
      refine J_keep [true, false, false, false, false, false] rfl ?_
      exact h93 _ _
    · refine J_aload_n zd_H_crewChance_20 rfl ?_
      refine J_gR zd_H_crewChance_21 zf_H_19 rfl (fun r4 => ?_)
      refine J_iload_n zd_H_crewChance_24 rfl ?_
      refine J_callVr (ci := 11) (as := [.inl _]) zd_H_crewChance_25 zm_AL_get ⟨Nat.le_of_ble_eq_true rfl, Nat.le_of_ble_eq_true rfl⟩ zw_327 zw_328 zw_329 (by decide) rfl rfl (Nat.le_of_ble_eq_true rfl) ⟨Nat.le_of_ble_eq_true rfl, Nat.le_of_ble_eq_true rfl⟩ rfl rfl (c_AL_get E _ _ _) (fun r6 μ5 => ?_)
      refine J_cast (ci := 6) zd_H_crewChance_28 (by decide) rfl zw_229 ?_
      refine J_astore (lv' := [some _, some _, some _, some _, some _, none]) zd_H_crewChance_31 (Nat.le_of_ble_eq_true rfl) rfl ?_
      refine J_aload zd_H_crewChance_33 rfl ?_
      refine J_gI zd_H_crewChance_35 zf_H_138 rfl (fun v7 => ?_)
      refine J_iload_n zd_H_crewChance_38 rfl ?_
      refine J_icmp_ne (tgt := 87) zd_H_crewChance_39 rfl ?_ ?_
      · refine J_wid (k := 0) (n := 0) (Nat.le_of_ble_eq_true rfl) (Nat.le_of_ble_eq_true rfl) ?_
        refine J_keep [true, true, true, true, false, false] rfl ?_
        exact j_H_crewChance_87 E _ _ _ _ _ (j_H_crewChance_9 E a0 a1 a2 h93 n)
      · refine J_aload zd_H_crewChance_42 rfl ?_
        refine J_gI zd_H_crewChance_44 zf_H_141 rfl (fun v8 => ?_)
        refine J_bipush (v := 7) zd_H_crewChance_47 (by decide) ?_
        refine J_iand zd_H_crewChance_49 ?_
        refine J_if_ne (tgt := 56) zd_H_crewChance_50 rfl ?_ ?_
        · refine J_aload zd_H_crewChance_56 rfl ?_
          refine J_iload_n zd_H_crewChance_58 rfl ?_
          refine J_aload_n zd_H_crewChance_59 rfl ?_
          refine J_gI zd_H_crewChance_60 zf_H_70 rfl (fun v9 => ?_)
          refine J_callVi (ci := 6) (as := [.inl _, .inl _]) zd_H_crewChance_63 zm_Q_partIn ⟨Nat.le_of_ble_eq_true rfl, Nat.le_of_ble_eq_true rfl⟩ zw_356 zw_357 zw_358 (by decide) rfl rfl (Nat.le_of_ble_eq_true rfl) ⟨Nat.le_of_ble_eq_true rfl, Nat.le_of_ble_eq_true rfl⟩ rfl rfl (c_Q_partIn E _ _ _ _) (fun v11 μ10 => ?_)
          refine J_istore (lv' := [some _, some _, some _, some _, some _, some _]) zd_H_crewChance_66 (Nat.le_of_ble_eq_true rfl) rfl ?_
          refine J_iload zd_H_crewChance_68 rfl ?_
          refine J_if_le (tgt := 87) zd_H_crewChance_70 rfl ?_ ?_
          · refine J_wid (k := 0) (n := 0) (Nat.le_of_ble_eq_true rfl) (Nat.le_of_ble_eq_true rfl) ?_
            refine J_keep [true, true, true, true, false, false] rfl ?_
            exact j_H_crewChance_87 E _ _ _ _ _ (j_H_crewChance_9 E a0 a1 a2 h93 n)
          · refine J_aload_n zd_H_crewChance_73 rfl ?_
            refine J_gR zd_H_crewChance_74 zf_H_42 rfl (fun r12 => ?_)
            refine J_aload zd_H_crewChance_77 rfl ?_
            refine J_gI zd_H_crewChance_79 zf_H_141 rfl (fun v13 => ?_)
            refine J_iload zd_H_crewChance_82 rfl ?_
            refine J_callVv (ci := 2) (as := [.inl _, .inl _]) zd_H_crewChance_84 zm_R_mayCome ⟨Nat.le_of_ble_eq_true rfl, Nat.le_of_ble_eq_true rfl⟩ zw_378 zw_379 zw_380 (by decide) rfl rfl (Nat.le_of_ble_eq_true rfl) ⟨Nat.le_of_ble_eq_true rfl, Nat.le_of_ble_eq_true rfl⟩ rfl rfl (c_R_mayCome E _ _ _ _) (fun μ14 => ?_)
            refine J_wid (k := 0) (n := 0) (Nat.le_of_ble_eq_true rfl) (Nat.le_of_ble_eq_true rfl) ?_
            refine J_keep [true, true, true, true, false, false] rfl ?_
            exact j_H_crewChance_87 E _ _ _ _ _ (j_H_crewChance_9 E a0 a1 a2 h93 n)
        · refine J_goto (tgt := 87) zd_H_crewChance_53 rfl ?_
          refine J_wid (k := 0) (n := 0) (Nat.le_of_ble_eq_true rfl) (Nat.le_of_ble_eq_true rfl) ?_
          refine J_keep [true, true, true, true, false, false] rfl ?_
          exact j_H_crewChance_87 E _ _ _ _ _ (j_H_crewChance_9 E a0 a1 a2 h93 n)
def b_H_crewChance_93  (a0 : Nat)  (μ : Mem) : Option (LV × Mem) := gR 9 a0 7 μ (fun r15 => gI 9 a0 13 μ (fun v16 => cV 2 r15 μ (bI (f_R_standing r15 v16 μ) (fun v18 μ17 => (some (.inl v18, μ17))))))
set_option maxRecDepth 20000 in
theorem j_H_crewChance_93 (E : EV) (a0 : Nat)  (μ : Mem)  : J E I_H_crewChance (rmk 4 0 0) (QR E I_H_crewChance (rmk 4 0 0)) 0 0 μ 93 [some (.inr a0), none, none, none, none, none] [] (b_H_crewChance_93 a0 μ) := by
  unfold b_H_crewChance_93
  refine J_aload_n zd_H_crewChance_93 rfl ?_
  refine J_gR zd_H_crewChance_94 zf_H_42 rfl (fun r15 => ?_)
  refine J_aload_n zd_H_crewChance_97 rfl ?_
  refine J_gI zd_H_crewChance_98 zf_H_74 rfl (fun v16 => ?_)
  refine J_callVi (ci := 2) (as := [.inl _]) zd_H_crewChance_101 zm_R_standing ⟨Nat.le_of_ble_eq_true rfl, Nat.le_of_ble_eq_true rfl⟩ zw_388 zw_389 zw_390 (by decide) rfl rfl (Nat.le_of_ble_eq_true rfl) ⟨Nat.le_of_ble_eq_true rfl, Nat.le_of_ble_eq_true rfl⟩ rfl rfl (c_R_standing E _ _ _) (fun v18 μ17 => ?_)
  exact J_iret zd_H_crewChance_104 rfl (Nat.le_of_ble_eq_true rfl) (Nat.le_of_ble_eq_true rfl)
def f_H_crewChance (a0 : Nat) (a1 : Int32) (a2 : Int32) (μ : Mem) : Option (LV × Mem) := gR 9 a0 7 μ (fun r19 => cV 2 r19 μ (bV (f_R_clear r19 μ) (fun μ20 => (k_H_crewChance_9 (fun b0 m_ => b_H_crewChance_93 b0 m_) a0 a1 a2 120000 0 μ20))))
set_option maxRecDepth 20000 in
theorem c_H_crewChance (E : EV) (a0 : Nat) (a1 : Int32) (a2 : Int32) (μ : Mem) : Ct E I_H_crewChance (rmk 4 0 0) [.inr a0, .inl a1, .inl a2] μ (f_H_crewChance a0 a1 a2 μ) := by
  refine Ct.of (k := 3) (by decide +kernel) rfl ?_
  show J E I_H_crewChance (rmk 4 0 0) (QR E I_H_crewChance (rmk 4 0 0)) 0 0 μ 0 [some (.inr a0), some (.inl a1), some (.inl a2), none, none, none] [] (f_H_crewChance a0 a1 a2 μ)
  unfold f_H_crewChance
  refine J_aload_n zd_H_crewChance_0 rfl ?_
  refine J_gR zd_H_crewChance_1 zf_H_42 rfl (fun r19 => ?_)
  refine J_callVv (ci := 2) (as := []) zd_H_crewChance_4 zm_R_clear ⟨Nat.le_of_ble_eq_true rfl, Nat.le_of_ble_eq_true rfl⟩ zw_372 zw_373 zw_374 (by decide) rfl rfl (Nat.le_of_ble_eq_true rfl) ⟨Nat.le_of_ble_eq_true rfl, Nat.le_of_ble_eq_true rfl⟩ rfl rfl (c_R_clear E _ _) (fun μ20 => ?_)
  refine J_iconst (v := 0) zd_H_crewChance_7 (by decide) ?_
  refine J_istore_n (lv' := [some _, some _, some _, some _, none, none]) zd_H_crewChance_8 (Nat.le_of_ble_eq_true rfl) rfl ?_
  refine J_wid (k := 0) (n := 0) (Nat.le_of_ble_eq_true rfl) (Nat.le_of_ble_eq_true rfl) ?_
  refine J_keep [true, true, true, true, false, false] rfl ?_
  exact j_H_crewChance_9 E _ _ _ (fun b0 m_ => j_H_crewChance_93 E b0 m_) _ _ _
def b_H_chance_14  (a0 : Nat)  (μ : Mem) : Option (LV × Mem) := cV 9 a0 μ (bI (f_H_refuse a0 (-1) μ) (fun v2 μ1 => (some (.inl v2, μ1))))
set_option maxRecDepth 20000 in
theorem j_H_chance_14 (E : EV) (a0 : Nat)  (μ : Mem)  : J E I_H_chance (rmk 5 0 0) (QR E I_H_chance (rmk 5 0 0)) 0 0 μ 14 [some (.inr a0), none, none] [] (b_H_chance_14 a0 μ) := by
  unfold b_H_chance_14
  refine J_aload_n zd_H_chance_14 rfl ?_
  refine J_iconst (v := (-1)) zd_H_chance_15 (by decide) ?_
  refine J_callVi (ci := 9) (as := [.inl _]) zd_H_chance_16 zm_H_refuse ⟨Nat.le_of_ble_eq_true rfl, Nat.le_of_ble_eq_true rfl⟩ zw_214 zw_216 zs_0 (by decide) rfl rfl (Nat.le_of_ble_eq_true rfl) ⟨Nat.le_of_ble_eq_true rfl, Nat.le_of_ble_eq_true rfl⟩ rfl rfl (c_H_refuse E _ _ _) (fun v2 μ1 => ?_)
  exact J_iret zd_H_chance_19 rfl (Nat.le_of_ble_eq_true rfl) (Nat.le_of_ble_eq_true rfl)
def f_H_chance (a0 : Nat) (a1 : Int32) (a2 : Int32) (μ : Mem) : Option (LV × Mem) := bI (f_H_isStation a1 μ) (fun v4 μ3 => (if v4 = 0 then (b_H_chance_14 a0 μ3) else bI (f_H_isBand a2 μ3) (fun v6 μ5 => (if v6 = 0 then (b_H_chance_14 a0 μ5) else cV 9 a0 μ5 (bI (f_H_crewChance a0 a1 a2 μ5) (fun v8 μ7 => (some (.inl v8, μ7))))))))
set_option maxRecDepth 20000 in
theorem c_H_chance (E : EV) (a0 : Nat) (a1 : Int32) (a2 : Int32) (μ : Mem) : Ct E I_H_chance (rmk 5 0 0) [.inr a0, .inl a1, .inl a2] μ (f_H_chance a0 a1 a2 μ) := by
  refine Ct.of (k := 0) (by decide +kernel) rfl ?_
  show J E I_H_chance (rmk 5 0 0) (QR E I_H_chance (rmk 5 0 0)) 0 0 μ 0 [some (.inr a0), some (.inl a1), some (.inl a2)] [] (f_H_chance a0 a1 a2 μ)
  unfold f_H_chance
  refine J_iload_n zd_H_chance_0 rfl ?_
  refine J_callSi (as := [.inl _]) zd_H_chance_1 zm_H_isStation ⟨Nat.le_of_ble_eq_true rfl, Nat.le_of_ble_eq_true rfl⟩ zw_211 zw_212 rfl (Nat.le_of_ble_eq_true rfl) ⟨Nat.le_of_ble_eq_true rfl, Nat.le_of_ble_eq_true rfl⟩ rfl rfl (c_H_isStation E _ _) (fun v4 μ3 => ?_)
  refine J_if_eq (tgt := 14) zd_H_chance_4 rfl ?_ ?_
  · refine J_wid (k := 0) (n := 0) (Nat.le_of_ble_eq_true rfl) (Nat.le_of_ble_eq_true rfl) ?_
    refine J_keep [true, false, false] rfl ?_
    exact j_H_chance_14 E _ _
  · refine J_iload_n zd_H_chance_7 rfl ?_
    refine J_callSi (as := [.inl _]) zd_H_chance_8 zm_H_isBand ⟨Nat.le_of_ble_eq_true rfl, Nat.le_of_ble_eq_true rfl⟩ zw_353 zw_354 rfl (Nat.le_of_ble_eq_true rfl) ⟨Nat.le_of_ble_eq_true rfl, Nat.le_of_ble_eq_true rfl⟩ rfl rfl (c_H_isBand E _ _) (fun v6 μ5 => ?_)
    refine J_if_ne (tgt := 20) zd_H_chance_11 rfl ?_ ?_
    · refine J_aload_n zd_H_chance_20 rfl ?_
      refine J_iload_n zd_H_chance_21 rfl ?_
      refine J_iload_n zd_H_chance_22 rfl ?_
      refine J_callVi (ci := 9) (as := [.inl _, .inl _]) zd_H_chance_23 zm_H_crewChance ⟨Nat.le_of_ble_eq_true rfl, Nat.le_of_ble_eq_true rfl⟩ zw_368 zw_370 zs_6 (by decide) rfl rfl (Nat.le_of_ble_eq_true rfl) ⟨Nat.le_of_ble_eq_true rfl, Nat.le_of_ble_eq_true rfl⟩ rfl rfl (c_H_crewChance E _ _ _ _) (fun v8 μ7 => ?_)
      exact J_iret zd_H_chance_26 rfl (Nat.le_of_ble_eq_true rfl) (Nat.le_of_ble_eq_true rfl)
    · refine J_wid (k := 0) (n := 0) (Nat.le_of_ble_eq_true rfl) (Nat.le_of_ble_eq_true rfl) ?_
      refine J_keep [true, false, false] rfl ?_
      exact j_H_chance_14 E _ _
def b_H_weak_68 (c46 : Int32 → Int32 → Mem → Option (LV × Mem)) (a0 : Nat) (a1 : Int32) (a4 : Int32) (a5 : Int32) (a6 : Int32)  (μ : Mem) : Option (LV × Mem) := (c46 a5 (a6 + 1) μ)
set_option maxRecDepth 20000 in
theorem j_H_weak_68 (E : EV) (a0 : Nat) (a1 : Int32) (a4 : Int32) (a5 : Int32) (a6 : Int32)  (μ : Mem) {c46 : Int32 → Int32 → Mem → Option (LV × Mem)} (h46 : ∀ (b5 : Int32) (b6 : Int32)  (μ : Mem), J E I_H_weak (rmk 5 0 0) (QR E I_H_weak (rmk 5 0 0)) 0 0 μ 46 [some (.inr a0), some (.inl a1), none, none, some (.inl a4), some (.inl b5), some (.inl b6)] [] (c46 b5 b6 μ)) : J E I_H_weak (rmk 5 0 0) (QR E I_H_weak (rmk 5 0 0)) 0 0 μ 68 [some (.inr a0), some (.inl a1), none, none, some (.inl a4), some (.inl a5), some (.inl a6)] [] (b_H_weak_68 c46 a0 a1 a4 a5 a6 μ) := by
  unfold b_H_weak_68
  refine J_iinc (v := _ + 1) (lv' := [some _, some _, none, none, some _, some _, some _]) zd_H_weak_68 (Nat.le_of_ble_eq_true rfl) rfl (by rfl) rfl ?_
  refine J_goto (tgt := 46) zd_H_weak_71 rfl ?_
  refine J_wid (k := 0) (n := 0) (Nat.le_of_ble_eq_true rfl) (Nat.le_of_ble_eq_true rfl) ?_
  refine J_keep [true, true, false, false, true, true, true] rfl ?_
  exact h46 _ _ _
def k_H_weak_46  (a0 : Nat) (a1 : Int32) (a4 : Int32) : Nat → Int32 → Int32 → Mem → Option (LV × Mem)
  | 0, _, _, _ => none
  | n + 1, a5, a6, μ => (if 8 ≤ a6 then (some (.inl a5, μ)) else cV 9 a0 μ (bI (f_H_crewChance a0 a1 a6 μ) (fun v2 μ1 => (if a4 ≤ v2 then (b_H_weak_68 (k_H_weak_46 a0 a1 a4 n) a0 a1 a4 a5 a6 μ1) else (b_H_weak_68 (k_H_weak_46 a0 a1 a4 n) a0 a1 a4 (a5 + 1) a6 μ1)))))
set_option maxRecDepth 20000 in
theorem j_H_weak_46 (E : EV) (a0 : Nat) (a1 : Int32) (a4 : Int32)  : ∀ (n : Nat) (a5 : Int32) (a6 : Int32) (μ : Mem), J E I_H_weak (rmk 5 0 0) (QR E I_H_weak (rmk 5 0 0)) 0 0 μ 46 [some (.inr a0), some (.inl a1), none, none, some (.inl a4), some (.inl a5), some (.inl a6)] [] (k_H_weak_46 a0 a1 a4 n a5 a6 μ)
  | 0, _, _, _ => J_none
  | n + 1, a5, a6, μ => by
    show J E I_H_weak (rmk 5 0 0) (QR E I_H_weak (rmk 5 0 0)) 0 0 μ 46 [some (.inr a0), some (.inl a1), none, none, some (.inl a4), some (.inl a5), some (.inl a6)] [] ((if 8 ≤ a6 then (some (.inl a5, μ)) else cV 9 a0 μ (bI (f_H_crewChance a0 a1 a6 μ) (fun v2 μ1 => (if a4 ≤ v2 then (b_H_weak_68 (k_H_weak_46 a0 a1 a4 n) a0 a1 a4 a5 a6 μ1) else (b_H_weak_68 (k_H_weak_46 a0 a1 a4 n) a0 a1 a4 (a5 + 1) a6 μ1))))))
    refine J_iload zd_H_weak_46 rfl ?_
    refine J_bipush (v := 8) zd_H_weak_48 (by decide) ?_
    refine J_icmp_ge (tgt := 74) zd_H_weak_50 rfl ?_ ?_
    · refine J_iload zd_H_weak_74 rfl ?_
      exact J_iret zd_H_weak_76 rfl (Nat.le_of_ble_eq_true rfl) (Nat.le_of_ble_eq_true rfl)
    · refine J_aload_n zd_H_weak_53 rfl ?_
      refine J_iload_n zd_H_weak_54 rfl ?_
      refine J_iload zd_H_weak_55 rfl ?_
      refine J_callVi (ci := 9) (as := [.inl _, .inl _]) zd_H_weak_57 zm_H_crewChance ⟨Nat.le_of_ble_eq_true rfl, Nat.le_of_ble_eq_true rfl⟩ zw_368 zw_370 zs_6 (by decide) rfl rfl (Nat.le_of_ble_eq_true rfl) ⟨Nat.le_of_ble_eq_true rfl, Nat.le_of_ble_eq_true rfl⟩ rfl rfl (c_H_crewChance E _ _ _ _) (fun v2 μ1 => ?_)
      refine J_iload zd_H_weak_60 rfl ?_
      refine J_icmp_ge (tgt := 68) zd_H_weak_62 rfl ?_ ?_
      · refine J_wid (k := 0) (n := 0) (Nat.le_of_ble_eq_true rfl) (Nat.le_of_ble_eq_true rfl) ?_
        refine J_keep [true, true, false, false, true, true, true] rfl ?_
        exact j_H_weak_68 E _ _ _ _ _ _ (j_H_weak_46 E a0 a1 a4 n)
      · refine J_iinc (v := _ + 1) (lv' := [some _, some _, none, none, some _, some _, some _]) zd_H_weak_65 (Nat.le_of_ble_eq_true rfl) rfl (by rfl) rfl ?_
        refine J_wid (k := 0) (n := 0) (Nat.le_of_ble_eq_true rfl) (Nat.le_of_ble_eq_true rfl) ?_
        refine J_keep [true, true, false, false, true, true, true] rfl ?_
        exact j_H_weak_68 E _ _ _ _ _ _ (j_H_weak_46 E a0 a1 a4 n)
def f_H_weak (a0 : Nat) (a1 : Int32) (a2 : Int32) (μ : Mem) : Option (LV × Mem) := bI (f_H_isStation a1 μ) (fun v4 μ3 => (if v4 = 0 then cV 9 a0 μ3 (bI (f_H_refuse a0 (-1) μ3) (fun v11 μ10 => (some (.inl v11, μ10)))) else bI (f_H_outside a2 0 100 μ3) (fun v6 μ5 => (if v6 = 0 then nm ((1048576 * a2) / 100) (fun v7 => (k_H_weak_46 a0 a1 v7 120000 0 0 μ5)) else cV 9 a0 μ5 (bI (f_H_refuse a0 v6 μ5) (fun v9 μ8 => (some (.inl v9, μ8))))))))
set_option maxRecDepth 20000 in
theorem c_H_weak (E : EV) (a0 : Nat) (a1 : Int32) (a2 : Int32) (μ : Mem) : Ct E I_H_weak (rmk 5 0 0) [.inr a0, .inl a1, .inl a2] μ (f_H_weak a0 a1 a2 μ) := by
  refine Ct.of (k := 4) (by decide +kernel) rfl ?_
  show J E I_H_weak (rmk 5 0 0) (QR E I_H_weak (rmk 5 0 0)) 0 0 μ 0 [some (.inr a0), some (.inl a1), some (.inl a2), none, none, none, none] [] (f_H_weak a0 a1 a2 μ)
  unfold f_H_weak
  refine J_iload_n zd_H_weak_0 rfl ?_
  refine J_callSi (as := [.inl _]) zd_H_weak_1 zm_H_isStation ⟨Nat.le_of_ble_eq_true rfl, Nat.le_of_ble_eq_true rfl⟩ zw_211 zw_212 rfl (Nat.le_of_ble_eq_true rfl) ⟨Nat.le_of_ble_eq_true rfl, Nat.le_of_ble_eq_true rfl⟩ rfl rfl (c_H_isStation E _ _) (fun v4 μ3 => ?_)
  refine J_if_ne (tgt := 13) zd_H_weak_4 rfl ?_ ?_
  · refine J_iload_n zd_H_weak_13 rfl ?_
    refine J_iconst (v := 0) zd_H_weak_14 (by decide) ?_
    refine J_bipush (v := 100) zd_H_weak_15 (by decide) ?_
    refine J_callSi (as := [.inl _, .inl _, .inl _]) zd_H_weak_17 zm_H_outside ⟨Nat.le_of_ble_eq_true rfl, Nat.le_of_ble_eq_true rfl⟩ zw_218 zw_219 rfl (Nat.le_of_ble_eq_true rfl) ⟨Nat.le_of_ble_eq_true rfl, Nat.le_of_ble_eq_true rfl⟩ rfl rfl (c_H_outside E _ _ _ _) (fun v6 μ5 => ?_)
    refine J_istore_n (lv' := [some _, some _, some _, some _, none, none, none]) zd_H_weak_20 (Nat.le_of_ble_eq_true rfl) rfl ?_
    refine J_iload_n zd_H_weak_21 rfl ?_
    refine J_if_eq (tgt := 31) zd_H_weak_22 rfl ?_ ?_
    · refine J_ldc zd_H_weak_31 zw_399 ?_
      refine J_iload_n zd_H_weak_33 rfl ?_
      refine J_imul zd_H_weak_34 ?_
      refine J_bipush (v := 100) zd_H_weak_35 (by decide) ?_
      refine J_idivL zd_H_weak_37 (by decide) ?_
      refine J_nm (fun v7 => ?_)
      refine J_istore (lv' := [some _, some _, some _, some _, some _, none, none]) zd_H_weak_38 (Nat.le_of_ble_eq_true rfl) rfl ?_
      refine J_iconst (v := 0) zd_H_weak_40 (by decide) ?_
      refine J_istore (lv' := [some _, some _, some _, some _, some _, some _, none]) zd_H_weak_41 (Nat.le_of_ble_eq_true rfl) rfl ?_
      refine J_iconst (v := 0) zd_H_weak_43 (by decide) ?_
      refine J_istore (lv' := [some _, some _, some _, some _, some _, some _, some _]) zd_H_weak_44 (Nat.le_of_ble_eq_true rfl) rfl ?_
      refine J_wid (k := 0) (n := 0) (Nat.le_of_ble_eq_true rfl) (Nat.le_of_ble_eq_true rfl) ?_
      refine J_keep [true, true, false, false, true, true, true] rfl ?_
      exact j_H_weak_46 E _ _ _ _ _ _ _
    · refine J_aload_n zd_H_weak_25 rfl ?_
      refine J_iload_n zd_H_weak_26 rfl ?_
      refine J_callVi (ci := 9) (as := [.inl _]) zd_H_weak_27 zm_H_refuse ⟨Nat.le_of_ble_eq_true rfl, Nat.le_of_ble_eq_true rfl⟩ zw_214 zw_216 zs_0 (by decide) rfl rfl (Nat.le_of_ble_eq_true rfl) ⟨Nat.le_of_ble_eq_true rfl, Nat.le_of_ble_eq_true rfl⟩ rfl rfl (c_H_refuse E _ _ _) (fun v9 μ8 => ?_)
      exact J_iret zd_H_weak_30 rfl (Nat.le_of_ble_eq_true rfl) (Nat.le_of_ble_eq_true rfl)
  · refine J_aload_n zd_H_weak_7 rfl ?_
    refine J_iconst (v := (-1)) zd_H_weak_8 (by decide) ?_
    refine J_callVi (ci := 9) (as := [.inl _]) zd_H_weak_9 zm_H_refuse ⟨Nat.le_of_ble_eq_true rfl, Nat.le_of_ble_eq_true rfl⟩ zw_214 zw_216 zs_0 (by decide) rfl rfl (Nat.le_of_ble_eq_true rfl) ⟨Nat.le_of_ble_eq_true rfl, Nat.le_of_ble_eq_true rfl⟩ rfl rfl (c_H_refuse E _ _ _) (fun v11 μ10 => ?_)
    exact J_iret zd_H_weak_12 rfl (Nat.le_of_ble_eq_true rfl) (Nat.le_of_ble_eq_true rfl)
def b_H_tide_10  (a0 : Nat)  (μ : Mem) : Option (LV × Mem) := cV 9 a0 μ (bI (f_H_refuse a0 (-1) μ) (fun v2 μ1 => (some (.inl v2, μ1))))
set_option maxRecDepth 20000 in
theorem j_H_tide_10 (E : EV) (a0 : Nat)  (μ : Mem)  : J E I_H_tide (rmk 2 0 0) (QR E I_H_tide (rmk 2 0 0)) 0 0 μ 10 [some (.inr a0), none, none, none] [] (b_H_tide_10 a0 μ) := by
  unfold b_H_tide_10
  refine J_aload_n zd_H_tide_10 rfl ?_
  refine J_iconst (v := (-1)) zd_H_tide_11 (by decide) ?_
  refine J_callVi (ci := 9) (as := [.inl _]) zd_H_tide_12 zm_H_refuse ⟨Nat.le_of_ble_eq_true rfl, Nat.le_of_ble_eq_true rfl⟩ zw_214 zw_216 zs_0 (by decide) rfl rfl (Nat.le_of_ble_eq_true rfl) ⟨Nat.le_of_ble_eq_true rfl, Nat.le_of_ble_eq_true rfl⟩ rfl rfl (c_H_refuse E _ _ _) (fun v2 μ1 => ?_)
  exact J_iret zd_H_tide_15 rfl (Nat.le_of_ble_eq_true rfl) (Nat.le_of_ble_eq_true rfl)
def f_H_tide (a0 : Nat) (a1 : Int32) (a2 : Int32) (μ : Mem) : Option (LV × Mem) := (if a1 < 0 then (b_H_tide_10 a0 μ) else (if a1 < 25 then bI (f_H_outside a2 (-1) 12 μ) (fun v4 μ3 => (if v4 = 0 then gR 9 a0 6 μ3 (fun r5 => cV 8 r5 μ3 (bV (f_T_tell r5 a1 a2 μ3) (fun μ6 => (some (.inl 1, μ6))))) else cV 9 a0 μ3 (bI (f_H_refuse a0 v4 μ3) (fun v8 μ7 => (some (.inl v8, μ7)))))) else (b_H_tide_10 a0 μ)))
set_option maxRecDepth 20000 in
theorem c_H_tide (E : EV) (a0 : Nat) (a1 : Int32) (a2 : Int32) (μ : Mem) : Ct E I_H_tide (rmk 2 0 0) [.inr a0, .inl a1, .inl a2] μ (f_H_tide a0 a1 a2 μ) := by
  refine Ct.of (k := 1) (by decide +kernel) rfl ?_
  show J E I_H_tide (rmk 2 0 0) (QR E I_H_tide (rmk 2 0 0)) 0 0 μ 0 [some (.inr a0), some (.inl a1), some (.inl a2), none] [] (f_H_tide a0 a1 a2 μ)
  unfold f_H_tide
  refine J_iload_n zd_H_tide_0 rfl ?_
  refine J_if_lt (tgt := 10) zd_H_tide_1 rfl ?_ ?_
  · refine J_wid (k := 0) (n := 0) (Nat.le_of_ble_eq_true rfl) (Nat.le_of_ble_eq_true rfl) ?_
    refine J_keep [true, false, false, false] rfl ?_
    exact j_H_tide_10 E _ _
  · refine J_iload_n zd_H_tide_4 rfl ?_
    refine J_bipush (v := 25) zd_H_tide_5 (by decide) ?_
    refine J_icmp_lt (tgt := 16) zd_H_tide_7 rfl ?_ ?_
    · refine J_iload_n zd_H_tide_16 rfl ?_
      refine J_iconst (v := (-1)) zd_H_tide_17 (by decide) ?_
      refine J_bipush (v := 12) zd_H_tide_18 (by decide) ?_
      refine J_callSi (as := [.inl _, .inl _, .inl _]) zd_H_tide_20 zm_H_outside ⟨Nat.le_of_ble_eq_true rfl, Nat.le_of_ble_eq_true rfl⟩ zw_218 zw_219 rfl (Nat.le_of_ble_eq_true rfl) ⟨Nat.le_of_ble_eq_true rfl, Nat.le_of_ble_eq_true rfl⟩ rfl rfl (c_H_outside E _ _ _ _) (fun v4 μ3 => ?_)
      refine J_istore_n (lv' := [some _, some _, some _, some _]) zd_H_tide_23 (Nat.le_of_ble_eq_true rfl) rfl ?_
      refine J_iload_n zd_H_tide_24 rfl ?_
      refine J_if_eq (tgt := 34) zd_H_tide_25 rfl ?_ ?_
      · refine J_aload_n zd_H_tide_34 rfl ?_
        refine J_gR zd_H_tide_35 zf_H_35 rfl (fun r5 => ?_)
        refine J_iload_n zd_H_tide_38 rfl ?_
        refine J_iload_n zd_H_tide_39 rfl ?_
        refine J_callVv (ci := 8) (as := [.inl _, .inl _]) zd_H_tide_40 zm_T_tell ⟨Nat.le_of_ble_eq_true rfl, Nat.le_of_ble_eq_true rfl⟩ zw_404 zw_405 zw_406 (by decide) rfl rfl (Nat.le_of_ble_eq_true rfl) ⟨Nat.le_of_ble_eq_true rfl, Nat.le_of_ble_eq_true rfl⟩ rfl rfl (c_T_tell E _ _ _ _) (fun μ6 => ?_)
        refine J_iconst (v := 1) zd_H_tide_43 (by decide) ?_
        exact J_iret zd_H_tide_44 rfl (Nat.le_of_ble_eq_true rfl) (Nat.le_of_ble_eq_true rfl)
      · refine J_aload_n zd_H_tide_28 rfl ?_
        refine J_iload_n zd_H_tide_29 rfl ?_
        refine J_callVi (ci := 9) (as := [.inl _]) zd_H_tide_30 zm_H_refuse ⟨Nat.le_of_ble_eq_true rfl, Nat.le_of_ble_eq_true rfl⟩ zw_214 zw_216 zs_0 (by decide) rfl rfl (Nat.le_of_ble_eq_true rfl) ⟨Nat.le_of_ble_eq_true rfl, Nat.le_of_ble_eq_true rfl⟩ rfl rfl (c_H_refuse E _ _ _) (fun v8 μ7 => ?_)
        exact J_iret zd_H_tide_33 rfl (Nat.le_of_ble_eq_true rfl) (Nat.le_of_ble_eq_true rfl)
    · refine J_wid (k := 0) (n := 0) (Nat.le_of_ble_eq_true rfl) (Nat.le_of_ble_eq_true rfl) ?_
      refine J_keep [true, false, false, false] rfl ?_
      exact j_H_tide_10 E _ _
def f_H_isOpen (a0 : Nat) (a1 : Int32) (a2 : Int32) (μ : Mem) : Option (LV × Mem) := gR 9 a0 6 μ (fun r1 => cV 8 r1 μ (bI (f_T_feet r1 a2 μ) (fun v3 μ2 => gR 9 a0 1 μ2 (fun r4 => aI r4 a1 μ2 (fun v5 => (if v3 < v5 then (some (.inl 0, μ2)) else (some (.inl 1, μ2))))))))
set_option maxRecDepth 20000 in
theorem c_H_isOpen (E : EV) (a0 : Nat) (a1 : Int32) (a2 : Int32) (μ : Mem) : Ct E I_H_isOpen (rmk 3 0 0) [.inr a0, .inl a1, .inl a2] μ (f_H_isOpen a0 a1 a2 μ) := by
  refine Ct.of (k := 0) (by decide +kernel) rfl ?_
  show J E I_H_isOpen (rmk 3 0 0) (QR E I_H_isOpen (rmk 3 0 0)) 0 0 μ 0 [some (.inr a0), some (.inl a1), some (.inl a2)] [] (f_H_isOpen a0 a1 a2 μ)
  unfold f_H_isOpen
  refine J_aload_n zd_H_isOpen_0 rfl ?_
  refine J_gR zd_H_isOpen_1 zf_H_35 rfl (fun r1 => ?_)
  refine J_iload_n zd_H_isOpen_4 rfl ?_
  refine J_callVi (ci := 8) (as := [.inl _]) zd_H_isOpen_5 zm_T_feet ⟨Nat.le_of_ble_eq_true rfl, Nat.le_of_ble_eq_true rfl⟩ zw_416 zw_417 zw_418 (by decide) rfl rfl (Nat.le_of_ble_eq_true rfl) ⟨Nat.le_of_ble_eq_true rfl, Nat.le_of_ble_eq_true rfl⟩ rfl rfl (c_T_feet E _ _ _) (fun v3 μ2 => ?_)
  refine J_aload_n zd_H_isOpen_8 rfl ?_
  refine J_gR zd_H_isOpen_9 zf_H_13 rfl (fun r4 => ?_)
  refine J_iload_n zd_H_isOpen_12 rfl ?_
  refine J_aI zd_H_isOpen_13 (fun v5 => ?_)
  refine J_icmp_lt (tgt := 21) zd_H_isOpen_14 rfl ?_ ?_
  · refine J_iconst (v := 0) zd_H_isOpen_21 (by decide) ?_
    exact J_zret zd_H_isOpen_22 rfl rfl (Nat.le_of_ble_eq_true rfl) (Nat.le_of_ble_eq_true rfl)
  · refine J_iconst (v := 1) zd_H_isOpen_17 (by decide) ?_
    refine J_goto (tgt := 22) zd_H_isOpen_18 rfl ?_
    exact J_zret zd_H_isOpen_22 rfl rfl (Nat.le_of_ble_eq_true rfl) (Nat.le_of_ble_eq_true rfl)
def f_H_slip (a0 : Nat) (a1 : Int32) (a2 : Int32) (μ : Mem) : Option (LV × Mem) := bI (f_H_isStation a1 μ) (fun v2 μ1 => (if v2 = 0 then cV 9 a0 μ1 (bI (f_H_refuse a0 (-1) μ1) (fun v10 μ9 => (some (.inl v10, μ9)))) else bI (f_H_outside a2 0 4000 μ1) (fun v4 μ3 => (if v4 = 0 then cV 9 a0 μ3 (bI (f_H_isOpen a0 a1 a2 μ3) (fun v6 μ5 => (if v6 = 0 then (some (.inl 0, μ5)) else (some (.inl 1, μ5))))) else cV 9 a0 μ3 (bI (f_H_refuse a0 v4 μ3) (fun v8 μ7 => (some (.inl v8, μ7))))))))
set_option maxRecDepth 20000 in
theorem c_H_slip (E : EV) (a0 : Nat) (a1 : Int32) (a2 : Int32) (μ : Mem) : Ct E I_H_slip (rmk 4 0 0) [.inr a0, .inl a1, .inl a2] μ (f_H_slip a0 a1 a2 μ) := by
  refine Ct.of (k := 1) (by decide +kernel) rfl ?_
  show J E I_H_slip (rmk 4 0 0) (QR E I_H_slip (rmk 4 0 0)) 0 0 μ 0 [some (.inr a0), some (.inl a1), some (.inl a2), none] [] (f_H_slip a0 a1 a2 μ)
  unfold f_H_slip
  refine J_iload_n zd_H_slip_0 rfl ?_
  refine J_callSi (as := [.inl _]) zd_H_slip_1 zm_H_isStation ⟨Nat.le_of_ble_eq_true rfl, Nat.le_of_ble_eq_true rfl⟩ zw_211 zw_212 rfl (Nat.le_of_ble_eq_true rfl) ⟨Nat.le_of_ble_eq_true rfl, Nat.le_of_ble_eq_true rfl⟩ rfl rfl (c_H_isStation E _ _) (fun v2 μ1 => ?_)
  refine J_if_ne (tgt := 13) zd_H_slip_4 rfl ?_ ?_
  · refine J_iload_n zd_H_slip_13 rfl ?_
    refine J_iconst (v := 0) zd_H_slip_14 (by decide) ?_
    refine J_sipush (v := 4000) zd_H_slip_15 (by decide) ?_
    refine J_callSi (as := [.inl _, .inl _, .inl _]) zd_H_slip_18 zm_H_outside ⟨Nat.le_of_ble_eq_true rfl, Nat.le_of_ble_eq_true rfl⟩ zw_218 zw_219 rfl (Nat.le_of_ble_eq_true rfl) ⟨Nat.le_of_ble_eq_true rfl, Nat.le_of_ble_eq_true rfl⟩ rfl rfl (c_H_outside E _ _ _ _) (fun v4 μ3 => ?_)
    refine J_istore_n (lv' := [some _, some _, some _, some _]) zd_H_slip_21 (Nat.le_of_ble_eq_true rfl) rfl ?_
    refine J_iload_n zd_H_slip_22 rfl ?_
    refine J_if_eq (tgt := 32) zd_H_slip_23 rfl ?_ ?_
    · refine J_aload_n zd_H_slip_32 rfl ?_
      refine J_iload_n zd_H_slip_33 rfl ?_
      refine J_iload_n zd_H_slip_34 rfl ?_
      refine J_callVi (ci := 9) (as := [.inl _, .inl _]) zd_H_slip_35 zm_H_isOpen ⟨Nat.le_of_ble_eq_true rfl, Nat.le_of_ble_eq_true rfl⟩ zw_412 zw_414 zs_7 (by decide) rfl rfl (Nat.le_of_ble_eq_true rfl) ⟨Nat.le_of_ble_eq_true rfl, Nat.le_of_ble_eq_true rfl⟩ rfl rfl (c_H_isOpen E _ _ _ _) (fun v6 μ5 => ?_)
      refine J_if_eq (tgt := 45) zd_H_slip_38 rfl ?_ ?_
      · refine J_iconst (v := 0) zd_H_slip_45 (by decide) ?_
        exact J_iret zd_H_slip_46 rfl (Nat.le_of_ble_eq_true rfl) (Nat.le_of_ble_eq_true rfl)
      · refine J_iconst (v := 1) zd_H_slip_41 (by decide) ?_
        refine J_goto (tgt := 46) zd_H_slip_42 rfl ?_
        exact J_iret zd_H_slip_46 rfl (Nat.le_of_ble_eq_true rfl) (Nat.le_of_ble_eq_true rfl)
    · refine J_aload_n zd_H_slip_26 rfl ?_
      refine J_iload_n zd_H_slip_27 rfl ?_
      refine J_callVi (ci := 9) (as := [.inl _]) zd_H_slip_28 zm_H_refuse ⟨Nat.le_of_ble_eq_true rfl, Nat.le_of_ble_eq_true rfl⟩ zw_214 zw_216 zs_0 (by decide) rfl rfl (Nat.le_of_ble_eq_true rfl) ⟨Nat.le_of_ble_eq_true rfl, Nat.le_of_ble_eq_true rfl⟩ rfl rfl (c_H_refuse E _ _ _) (fun v8 μ7 => ?_)
      exact J_iret zd_H_slip_31 rfl (Nat.le_of_ble_eq_true rfl) (Nat.le_of_ble_eq_true rfl)
  · refine J_aload_n zd_H_slip_7 rfl ?_
    refine J_iconst (v := (-1)) zd_H_slip_8 (by decide) ?_
    refine J_callVi (ci := 9) (as := [.inl _]) zd_H_slip_9 zm_H_refuse ⟨Nat.le_of_ble_eq_true rfl, Nat.le_of_ble_eq_true rfl⟩ zw_214 zw_216 zs_0 (by decide) rfl rfl (Nat.le_of_ble_eq_true rfl) ⟨Nat.le_of_ble_eq_true rfl, Nat.le_of_ble_eq_true rfl⟩ rfl rfl (c_H_refuse E _ _ _) (fun v10 μ9 => ?_)
    exact J_iret zd_H_slip_12 rfl (Nat.le_of_ble_eq_true rfl) (Nat.le_of_ble_eq_true rfl)
def f_H_minutes (a0 : Nat) (a1 : Int32) (μ : Mem) : Option (LV × Mem) := (if 1 ≤ a1 then gI 9 a0 12 μ (fun v1 => (if a1 ≤ (200000 - v1) then gI 9 a0 12 μ (fun v2 => pI 9 a0 12 (v2 + a1) μ (fun μ3 => gI 9 a0 12 μ3 (fun v4 => (some (.inl v4, μ3))))) else cV 9 a0 μ (bI (f_H_refuse a0 (-6) μ) (fun v6 μ5 => (some (.inl v6, μ5)))))) else cV 9 a0 μ (bI (f_H_refuse a0 (-4) μ) (fun v8 μ7 => (some (.inl v8, μ7)))))
set_option maxRecDepth 20000 in
theorem c_H_minutes (E : EV) (a0 : Nat) (a1 : Int32) (μ : Mem) : Ct E I_H_minutes (rmk 2 0 0) [.inr a0, .inl a1] μ (f_H_minutes a0 a1 μ) := by
  refine Ct.of (k := 0) (by decide +kernel) rfl ?_
  show J E I_H_minutes (rmk 2 0 0) (QR E I_H_minutes (rmk 2 0 0)) 0 0 μ 0 [some (.inr a0), some (.inl a1)] [] (f_H_minutes a0 a1 μ)
  unfold f_H_minutes
  refine J_iload_n zd_H_minutes_0 rfl ?_
  refine J_iconst (v := 1) zd_H_minutes_1 (by decide) ?_
  refine J_icmp_ge (tgt := 12) zd_H_minutes_2 rfl ?_ ?_
  · refine J_iload_n zd_H_minutes_12 rfl ?_
    refine J_ldc zd_H_minutes_13 zw_427 ?_
    refine J_aload_n zd_H_minutes_15 rfl ?_
    refine J_gI zd_H_minutes_16 zf_H_70 rfl (fun v1 => ?_)
    refine J_isub zd_H_minutes_19 ?_
    refine J_icmp_le (tgt := 30) zd_H_minutes_20 rfl ?_ ?_
    · refine J_aload_n zd_H_minutes_30 rfl ?_
      refine J_dup zd_H_minutes_31 ?_
      refine J_gI zd_H_minutes_32 zf_H_70 rfl (fun v2 => ?_)
      refine J_iload_n zd_H_minutes_35 rfl ?_
      refine J_iadd zd_H_minutes_36 ?_
      refine J_pI zd_H_minutes_37 zf_H_70 ⟨zt_H, zn_H, Or.inl rfl⟩ rfl rfl (fun μ3 => ?_)
      refine J_aload_n zd_H_minutes_40 rfl ?_
      refine J_gI zd_H_minutes_41 zf_H_70 rfl (fun v4 => ?_)
      exact J_iret zd_H_minutes_44 rfl (Nat.le_of_ble_eq_true rfl) (Nat.le_of_ble_eq_true rfl)
    · refine J_aload_n zd_H_minutes_23 rfl ?_
      refine J_bipush (v := (-6)) zd_H_minutes_24 (by decide) ?_
      refine J_callVi (ci := 9) (as := [.inl _]) zd_H_minutes_26 zm_H_refuse ⟨Nat.le_of_ble_eq_true rfl, Nat.le_of_ble_eq_true rfl⟩ zw_214 zw_216 zs_0 (by decide) rfl rfl (Nat.le_of_ble_eq_true rfl) ⟨Nat.le_of_ble_eq_true rfl, Nat.le_of_ble_eq_true rfl⟩ rfl rfl (c_H_refuse E _ _ _) (fun v6 μ5 => ?_)
      exact J_iret zd_H_minutes_29 rfl (Nat.le_of_ble_eq_true rfl) (Nat.le_of_ble_eq_true rfl)
  · refine J_aload_n zd_H_minutes_5 rfl ?_
    refine J_bipush (v := (-4)) zd_H_minutes_6 (by decide) ?_
    refine J_callVi (ci := 9) (as := [.inl _]) zd_H_minutes_8 zm_H_refuse ⟨Nat.le_of_ble_eq_true rfl, Nat.le_of_ble_eq_true rfl⟩ zw_214 zw_216 zs_0 (by decide) rfl rfl (Nat.le_of_ble_eq_true rfl) ⟨Nat.le_of_ble_eq_true rfl, Nat.le_of_ble_eq_true rfl⟩ rfl rfl (c_H_refuse E _ _ _) (fun v8 μ7 => ?_)
    exact J_iret zd_H_minutes_11 rfl (Nat.le_of_ble_eq_true rfl) (Nat.le_of_ble_eq_true rfl)
def b_H_boat_43  (a0 : Nat)  (μ : Mem) : Option (LV × Mem) := cV 9 a0 μ (bI (f_H_refuse a0 (-6) μ) (fun v2 μ1 => (some (.inl v2, μ1))))
set_option maxRecDepth 20000 in
theorem j_H_boat_43 (E : EV) (a0 : Nat)  (μ : Mem)  : J E I_H_boat (rmk 8 3 73) (QR E I_H_boat (rmk 8 3 73)) 0 0 μ 43 [some (.inr a0), none, none] [] (b_H_boat_43 a0 μ) := by
  unfold b_H_boat_43
  refine J_aload_n zd_H_boat_43 rfl ?_
  refine J_bipush (v := (-6)) zd_H_boat_44 (by decide) ?_
  refine J_callVi (ci := 9) (as := [.inl _]) zd_H_boat_46 zm_H_refuse ⟨Nat.le_of_ble_eq_true rfl, Nat.le_of_ble_eq_true rfl⟩ zw_214 zw_216 zs_0 (by decide) rfl rfl (Nat.le_of_ble_eq_true rfl) ⟨Nat.le_of_ble_eq_true rfl, Nat.le_of_ble_eq_true rfl⟩ rfl rfl (c_H_refuse E _ _ _) (fun v2 μ1 => ?_)
  exact J_iret zd_H_boat_49 rfl (Nat.le_of_ble_eq_true rfl) (Nat.le_of_ble_eq_true rfl)
def f_H_boat (a0 : Nat) (a1 : Int32) (a2 : Int32) (μ : Mem) : Option (LV × Mem) := bI (f_H_isStation a1 μ) (fun v4 μ3 => (if v4 = 0 then cV 9 a0 μ3 (bI (f_H_refuse a0 (-1) μ3) (fun v20 μ19 => (some (.inl v20, μ19)))) else (if 1 ≤ a2 then (if 20 < a2 then (b_H_boat_43 a0 μ3) else gR 9 a0 3 μ3 (fun r5 => cV 11 r5 μ3 (bI (f_AL_size r5 μ3) (fun v7 μ6 => (if v7 < 8 then gR 9 a0 3 μ6 (fun r8 => nO μ6 (3, 0) (fun h9 μ10 => cN h9 (bV (f_B_init h9 a1 a2 μ10) (fun μ11 => cV 11 r8 μ11 (bI (f_AL_add1 r8 h9 μ11) (fun v13 μ12 => gR 9 a0 3 μ12 (fun r14 => cV 11 r14 μ12 (bI (f_AL_size r14 μ12) (fun v16 μ15 => (some (.inl (v16 - 1), μ15))))))))))) else (b_H_boat_43 a0 μ6)))))) else cV 9 a0 μ3 (bI (f_H_refuse a0 (-4) μ3) (fun v18 μ17 => (some (.inl v18, μ17)))))))
set_option maxRecDepth 20000 in
theorem c_H_boat (E : EV) (a0 : Nat) (a1 : Int32) (a2 : Int32) (μ : Mem) : Ct E I_H_boat (rmk 8 3 73) [.inr a0, .inl a1, .inl a2] μ (f_H_boat a0 a1 a2 μ) := by
  refine Ct.of (k := 0) (by decide +kernel) rfl ?_
  show J E I_H_boat (rmk 8 3 73) (QR E I_H_boat (rmk 8 3 73)) 0 0 μ 0 [some (.inr a0), some (.inl a1), some (.inl a2)] [] (f_H_boat a0 a1 a2 μ)
  unfold f_H_boat
  refine J_iload_n zd_H_boat_0 rfl ?_
  refine J_callSi (as := [.inl _]) zd_H_boat_1 zm_H_isStation ⟨Nat.le_of_ble_eq_true rfl, Nat.le_of_ble_eq_true rfl⟩ zw_211 zw_212 rfl (Nat.le_of_ble_eq_true rfl) ⟨Nat.le_of_ble_eq_true rfl, Nat.le_of_ble_eq_true rfl⟩ rfl rfl (c_H_isStation E _ _) (fun v4 μ3 => ?_)
  refine J_if_ne (tgt := 13) zd_H_boat_4 rfl ?_ ?_
  · refine J_iload_n zd_H_boat_13 rfl ?_
    refine J_iconst (v := 1) zd_H_boat_14 (by decide) ?_
    refine J_icmp_ge (tgt := 25) zd_H_boat_15 rfl ?_ ?_
    · refine J_iload_n zd_H_boat_25 rfl ?_
      refine J_bipush (v := 20) zd_H_boat_26 (by decide) ?_
      refine J_icmp_gt (tgt := 43) zd_H_boat_28 rfl ?_ ?_
      · refine J_wid (k := 0) (n := 0) (Nat.le_of_ble_eq_true rfl) (Nat.le_of_ble_eq_true rfl) ?_
        refine J_keep [true, false, false] rfl ?_
        exact j_H_boat_43 E _ _
      · refine J_aload_n zd_H_boat_31 rfl ?_
        refine J_gR zd_H_boat_32 zf_H_23 rfl (fun r5 => ?_)
        refine J_callVi (ci := 11) (as := []) zd_H_boat_35 zm_AL_size ⟨Nat.le_of_ble_eq_true rfl, Nat.le_of_ble_eq_true rfl⟩ zw_225 zw_226 zw_227 (by decide) rfl rfl (Nat.le_of_ble_eq_true rfl) ⟨Nat.le_of_ble_eq_true rfl, Nat.le_of_ble_eq_true rfl⟩ rfl rfl (c_AL_size E _ _) (fun v7 μ6 => ?_)
        refine J_bipush (v := 8) zd_H_boat_38 (by decide) ?_
        refine J_icmp_lt (tgt := 50) zd_H_boat_40 rfl ?_ ?_
        · refine J_aload_n zd_H_boat_50 rfl ?_
          refine J_gR zd_H_boat_51 zf_H_23 rfl (fun r8 => ?_)
          refine J_new (ci := 0) zd_H_boat_54 ⟨rfl, zi_B, zt_B, zv_B, zw_432, zw_433, zw_18⟩ (Nat.le_of_ble_eq_true rfl) (Nat.le_of_ble_eq_true rfl) (fun h9 μ10 => ?_)
          refine J_dup zd_H_boat_57 ?_
          refine J_iload_n zd_H_boat_58 rfl ?_
          refine J_iload_n zd_H_boat_59 rfl ?_
          refine J_callI (as := [.inl _, .inl _]) zd_H_boat_60 zm_B_init ⟨Nat.le_of_ble_eq_true rfl, Nat.le_of_ble_eq_true rfl⟩ zw_434 zw_435 rfl rfl (Nat.le_of_ble_eq_true rfl) ⟨Nat.le_of_ble_eq_true rfl, Nat.le_of_ble_eq_true rfl⟩ rfl rfl (c_B_init E _ _ _ _) (fun μ11 => ?_)
          refine J_callVi (ci := 11) (as := [.inr _]) zd_H_boat_63 zm_AL_add1 ⟨Nat.le_of_ble_eq_true rfl, Nat.le_of_ble_eq_true rfl⟩ zw_260 zw_261 zw_262 (by decide) rfl rfl (Nat.le_of_ble_eq_true rfl) ⟨Nat.le_of_ble_eq_true rfl, Nat.le_of_ble_eq_true rfl⟩ rfl rfl (c_AL_add1 E _ _ _) (fun v13 μ12 => ?_)
          refine J_pop zd_H_boat_66 ?_
          refine J_aload_n zd_H_boat_67 rfl ?_
          refine J_gR zd_H_boat_68 zf_H_23 rfl (fun r14 => ?_)
          refine J_callVi (ci := 11) (as := []) zd_H_boat_71 zm_AL_size ⟨Nat.le_of_ble_eq_true rfl, Nat.le_of_ble_eq_true rfl⟩ zw_225 zw_226 zw_227 (by decide) rfl rfl (Nat.le_of_ble_eq_true rfl) ⟨Nat.le_of_ble_eq_true rfl, Nat.le_of_ble_eq_true rfl⟩ rfl rfl (c_AL_size E _ _) (fun v16 μ15 => ?_)
          refine J_iconst (v := 1) zd_H_boat_74 (by decide) ?_
          refine J_isub zd_H_boat_75 ?_
          exact J_iret zd_H_boat_76 rfl (Nat.le_of_ble_eq_true rfl) (Nat.le_of_ble_eq_true rfl)
        · refine J_wid (k := 0) (n := 0) (Nat.le_of_ble_eq_true rfl) (Nat.le_of_ble_eq_true rfl) ?_
          refine J_keep [true, false, false] rfl ?_
          exact j_H_boat_43 E _ _
    · refine J_aload_n zd_H_boat_18 rfl ?_
      refine J_bipush (v := (-4)) zd_H_boat_19 (by decide) ?_
      refine J_callVi (ci := 9) (as := [.inl _]) zd_H_boat_21 zm_H_refuse ⟨Nat.le_of_ble_eq_true rfl, Nat.le_of_ble_eq_true rfl⟩ zw_214 zw_216 zs_0 (by decide) rfl rfl (Nat.le_of_ble_eq_true rfl) ⟨Nat.le_of_ble_eq_true rfl, Nat.le_of_ble_eq_true rfl⟩ rfl rfl (c_H_refuse E _ _ _) (fun v18 μ17 => ?_)
      exact J_iret zd_H_boat_24 rfl (Nat.le_of_ble_eq_true rfl) (Nat.le_of_ble_eq_true rfl)
  · refine J_aload_n zd_H_boat_7 rfl ?_
    refine J_iconst (v := (-1)) zd_H_boat_8 (by decide) ?_
    refine J_callVi (ci := 9) (as := [.inl _]) zd_H_boat_9 zm_H_refuse ⟨Nat.le_of_ble_eq_true rfl, Nat.le_of_ble_eq_true rfl⟩ zw_214 zw_216 zs_0 (by decide) rfl rfl (Nat.le_of_ble_eq_true rfl) ⟨Nat.le_of_ble_eq_true rfl, Nat.le_of_ble_eq_true rfl⟩ rfl rfl (c_H_refuse E _ _ _) (fun v20 μ19 => ?_)
    exact J_iret zd_H_boat_12 rfl (Nat.le_of_ble_eq_true rfl) (Nat.le_of_ble_eq_true rfl)
def f_H_boatAt (a0 : Nat) (a1 : Int32) (μ : Mem) : Option (LV × Mem) := (if a1 < 0 then (some (.inr 0, μ)) else gR 9 a0 3 μ (fun r1 => cV 11 r1 μ (bI (f_AL_size r1 μ) (fun v3 μ2 => (if v3 ≤ a1 then (some (.inr 0, μ2)) else gR 9 a0 3 μ2 (fun r4 => cV 11 r4 μ2 (bR (f_AL_get r4 a1 μ2) (fun r6 μ5 => cC 0 r6 μ5 ((some (.inr r6, μ5)))))))))))
set_option maxRecDepth 20000 in
theorem c_H_boatAt (E : EV) (a0 : Nat) (a1 : Int32) (μ : Mem) : Ct E I_H_boatAt (rmk 4 0 0) [.inr a0, .inl a1] μ (f_H_boatAt a0 a1 μ) := by
  refine Ct.of (k := 0) (by decide +kernel) rfl ?_
  show J E I_H_boatAt (rmk 4 0 0) (QR E I_H_boatAt (rmk 4 0 0)) 0 0 μ 0 [some (.inr a0), some (.inl a1)] [] (f_H_boatAt a0 a1 μ)
  unfold f_H_boatAt
  refine J_iload_n zd_H_boatAt_0 rfl ?_
  refine J_if_lt (tgt := 29) zd_H_boatAt_1 rfl ?_ ?_
  · refine J_null zd_H_boatAt_29 ?_
    exact J_aret zd_H_boatAt_30 rfl (Or.inl ⟨_, rfl⟩) (Nat.le_of_ble_eq_true rfl) (Nat.le_of_ble_eq_true rfl)
  · refine J_iload_n zd_H_boatAt_4 rfl ?_
    refine J_aload_n zd_H_boatAt_5 rfl ?_
    refine J_gR zd_H_boatAt_6 zf_H_23 rfl (fun r1 => ?_)
    refine J_callVi (ci := 11) (as := []) zd_H_boatAt_9 zm_AL_size ⟨Nat.le_of_ble_eq_true rfl, Nat.le_of_ble_eq_true rfl⟩ zw_225 zw_226 zw_227 (by decide) rfl rfl (Nat.le_of_ble_eq_true rfl) ⟨Nat.le_of_ble_eq_true rfl, Nat.le_of_ble_eq_true rfl⟩ rfl rfl (c_AL_size E _ _) (fun v3 μ2 => ?_)
    refine J_icmp_ge (tgt := 29) zd_H_boatAt_12 rfl ?_ ?_
    · refine J_null zd_H_boatAt_29 ?_
      exact J_aret zd_H_boatAt_30 rfl (Or.inl ⟨_, rfl⟩) (Nat.le_of_ble_eq_true rfl) (Nat.le_of_ble_eq_true rfl)
    · refine J_aload_n zd_H_boatAt_15 rfl ?_
      refine J_gR zd_H_boatAt_16 zf_H_23 rfl (fun r4 => ?_)
      refine J_iload_n zd_H_boatAt_19 rfl ?_
      refine J_callVr (ci := 11) (as := [.inl _]) zd_H_boatAt_20 zm_AL_get ⟨Nat.le_of_ble_eq_true rfl, Nat.le_of_ble_eq_true rfl⟩ zw_327 zw_328 zw_329 (by decide) rfl rfl (Nat.le_of_ble_eq_true rfl) ⟨Nat.le_of_ble_eq_true rfl, Nat.le_of_ble_eq_true rfl⟩ rfl rfl (c_AL_get E _ _ _) (fun r6 μ5 => ?_)
      refine J_cast (ci := 0) zd_H_boatAt_23 (by decide) rfl zw_432 ?_
      refine J_goto (tgt := 30) zd_H_boatAt_26 rfl ?_
      exact J_aret zd_H_boatAt_30 rfl (Or.inl ⟨_, rfl⟩) (Nat.le_of_ble_eq_true rfl) (Nat.le_of_ble_eq_true rfl)
def f_H_isSea (a0 : Int32) (μ : Mem) : Option (LV × Mem) := (if a0 < 0 then (some (.inl 0, μ)) else (if 5 ≤ a0 then (some (.inl 0, μ)) else (some (.inl 1, μ))))
set_option maxRecDepth 20000 in
theorem c_H_isSea (E : EV) (a0 : Int32) (μ : Mem) : Ct E I_H_isSea (rmk 1 0 0) [.inl a0] μ (f_H_isSea a0 μ) := by
  refine Ct.of (k := 0) (by decide +kernel) rfl ?_
  show J E I_H_isSea (rmk 1 0 0) (QR E I_H_isSea (rmk 1 0 0)) 0 0 μ 0 [some (.inl a0)] [] (f_H_isSea a0 μ)
  unfold f_H_isSea
  refine J_iload_n zd_H_isSea_0 rfl ?_
  refine J_if_lt (tgt := 13) zd_H_isSea_1 rfl ?_ ?_
  · refine J_iconst (v := 0) zd_H_isSea_13 (by decide) ?_
    exact J_zret zd_H_isSea_14 rfl rfl (Nat.le_of_ble_eq_true rfl) (Nat.le_of_ble_eq_true rfl)
  · refine J_iload_n zd_H_isSea_4 rfl ?_
    refine J_iconst (v := 5) zd_H_isSea_5 (by decide) ?_
    refine J_icmp_ge (tgt := 13) zd_H_isSea_6 rfl ?_ ?_
    · refine J_iconst (v := 0) zd_H_isSea_13 (by decide) ?_
      exact J_zret zd_H_isSea_14 rfl rfl (Nat.le_of_ble_eq_true rfl) (Nat.le_of_ble_eq_true rfl)
    · refine J_iconst (v := 1) zd_H_isSea_9 (by decide) ?_
      refine J_goto (tgt := 14) zd_H_isSea_10 rfl ?_
      exact J_zret zd_H_isSea_14 rfl rfl (Nat.le_of_ble_eq_true rfl) (Nat.le_of_ble_eq_true rfl)
def b_H_speed_19  (a0 : Nat)  (μ : Mem) : Option (LV × Mem) := cV 9 a0 μ (bI (f_H_refuse a0 (-1) μ) (fun v2 μ1 => (some (.inl v2, μ1))))
set_option maxRecDepth 20000 in
theorem j_H_speed_19 (E : EV) (a0 : Nat)  (μ : Mem)  : J E I_H_speed (rmk 5 0 0) (QR E I_H_speed (rmk 5 0 0)) 0 0 μ 19 [some (.inr a0), none, none, none, none, none, none] [] (b_H_speed_19 a0 μ) := by
  unfold b_H_speed_19
  refine J_aload_n zd_H_speed_19 rfl ?_
  refine J_iconst (v := (-1)) zd_H_speed_20 (by decide) ?_
  refine J_callVi (ci := 9) (as := [.inl _]) zd_H_speed_21 zm_H_refuse ⟨Nat.le_of_ble_eq_true rfl, Nat.le_of_ble_eq_true rfl⟩ zw_214 zw_216 zs_0 (by decide) rfl rfl (Nat.le_of_ble_eq_true rfl) ⟨Nat.le_of_ble_eq_true rfl, Nat.le_of_ble_eq_true rfl⟩ rfl rfl (c_H_refuse E _ _ _) (fun v2 μ1 => ?_)
  exact J_iret zd_H_speed_24 rfl (Nat.le_of_ble_eq_true rfl) (Nat.le_of_ble_eq_true rfl)
def f_H_speed (a0 : Nat) (a1 : Int32) (a2 : Int32) (a3 : Int32) (μ : Mem) : Option (LV × Mem) := cV 9 a0 μ (bR (f_H_boatAt a0 a1 μ) (fun r4 μ3 => (if r4 = 0 then (b_H_speed_19 a0 μ3) else bI (f_H_isSea a2 μ3) (fun v6 μ5 => (if v6 = 0 then (b_H_speed_19 a0 μ5) else bI (f_H_outside a3 0 30 μ5) (fun v8 μ7 => (if v8 = 0 then gR 0 r4 1 μ7 (fun r9 => aI r9 a2 μ7 (fun v10 => gR 0 r4 1 μ7 (fun r11 => aS r11 a2 a3 μ7 (fun μ12 => (some (.inl v10, μ12)))))) else cV 9 a0 μ7 (bI (f_H_refuse a0 v8 μ7) (fun v14 μ13 => (some (.inl v14, μ13)))))))))))
set_option maxRecDepth 20000 in
theorem c_H_speed (E : EV) (a0 : Nat) (a1 : Int32) (a2 : Int32) (a3 : Int32) (μ : Mem) : Ct E I_H_speed (rmk 5 0 0) [.inr a0, .inl a1, .inl a2, .inl a3] μ (f_H_speed a0 a1 a2 a3 μ) := by
  refine Ct.of (k := 3) (by decide +kernel) rfl ?_
  show J E I_H_speed (rmk 5 0 0) (QR E I_H_speed (rmk 5 0 0)) 0 0 μ 0 [some (.inr a0), some (.inl a1), some (.inl a2), some (.inl a3), none, none, none] [] (f_H_speed a0 a1 a2 a3 μ)
  unfold f_H_speed
  refine J_aload_n zd_H_speed_0 rfl ?_
  refine J_iload_n zd_H_speed_1 rfl ?_
  refine J_callVr (ci := 9) (as := [.inl _]) zd_H_speed_2 zm_H_boatAt ⟨Nat.le_of_ble_eq_true rfl, Nat.le_of_ble_eq_true rfl⟩ zw_459 zw_461 zs_8 (by decide) rfl rfl (Nat.le_of_ble_eq_true rfl) ⟨Nat.le_of_ble_eq_true rfl, Nat.le_of_ble_eq_true rfl⟩ rfl rfl (c_H_boatAt E _ _ _) (fun r4 μ3 => ?_)
  refine J_astore (lv' := [some _, some _, some _, some _, some _, none, none]) zd_H_speed_5 (Nat.le_of_ble_eq_true rfl) rfl ?_
  refine J_aload zd_H_speed_7 rfl ?_
  refine J_ifnull (tgt := 19) zd_H_speed_9 rfl ?_ ?_
  · refine J_wid (k := 0) (n := 0) (Nat.le_of_ble_eq_true rfl) (Nat.le_of_ble_eq_true rfl) ?_
    refine J_keep [true, false, false, false, false, false, false] rfl ?_
    exact j_H_speed_19 E _ _
  · refine J_iload_n zd_H_speed_12 rfl ?_
    refine J_callSi (as := [.inl _]) zd_H_speed_13 zm_H_isSea ⟨Nat.le_of_ble_eq_true rfl, Nat.le_of_ble_eq_true rfl⟩ zw_463 zw_464 rfl (Nat.le_of_ble_eq_true rfl) ⟨Nat.le_of_ble_eq_true rfl, Nat.le_of_ble_eq_true rfl⟩ rfl rfl (c_H_isSea E _ _) (fun v6 μ5 => ?_)
    refine J_if_ne (tgt := 25) zd_H_speed_16 rfl ?_ ?_
    · refine J_iload_n zd_H_speed_25 rfl ?_
      refine J_iconst (v := 0) zd_H_speed_26 (by decide) ?_
      refine J_bipush (v := 30) zd_H_speed_27 (by decide) ?_
      refine J_callSi (as := [.inl _, .inl _, .inl _]) zd_H_speed_29 zm_H_outside ⟨Nat.le_of_ble_eq_true rfl, Nat.le_of_ble_eq_true rfl⟩ zw_218 zw_219 rfl (Nat.le_of_ble_eq_true rfl) ⟨Nat.le_of_ble_eq_true rfl, Nat.le_of_ble_eq_true rfl⟩ rfl rfl (c_H_outside E _ _ _ _) (fun v8 μ7 => ?_)
      refine J_istore (lv' := [some _, some _, some _, some _, some _, some _, none]) zd_H_speed_32 (Nat.le_of_ble_eq_true rfl) rfl ?_
      refine J_iload zd_H_speed_34 rfl ?_
      refine J_if_eq (tgt := 46) zd_H_speed_36 rfl ?_ ?_
      · refine J_aload zd_H_speed_46 rfl ?_
        refine J_gR zd_H_speed_48 zf_H_173 rfl (fun r9 => ?_)
        refine J_iload_n zd_H_speed_51 rfl ?_
        refine J_aI zd_H_speed_52 (fun v10 => ?_)
        refine J_istore (lv' := [some _, some _, some _, some _, some _, some _, some _]) zd_H_speed_53 (Nat.le_of_ble_eq_true rfl) rfl ?_
        refine J_aload zd_H_speed_55 rfl ?_
        refine J_gR zd_H_speed_57 zf_H_173 rfl (fun r11 => ?_)
        refine J_iload_n zd_H_speed_60 rfl ?_
        refine J_iload_n zd_H_speed_61 rfl ?_
        refine J_aS zd_H_speed_62 (fun μ12 => ?_)
        refine J_iload zd_H_speed_63 rfl ?_
        exact J_iret zd_H_speed_65 rfl (Nat.le_of_ble_eq_true rfl) (Nat.le_of_ble_eq_true rfl)
      · refine J_aload_n zd_H_speed_39 rfl ?_
        refine J_iload zd_H_speed_40 rfl ?_
        refine J_callVi (ci := 9) (as := [.inl _]) zd_H_speed_42 zm_H_refuse ⟨Nat.le_of_ble_eq_true rfl, Nat.le_of_ble_eq_true rfl⟩ zw_214 zw_216 zs_0 (by decide) rfl rfl (Nat.le_of_ble_eq_true rfl) ⟨Nat.le_of_ble_eq_true rfl, Nat.le_of_ble_eq_true rfl⟩ rfl rfl (c_H_refuse E _ _ _) (fun v14 μ13 => ?_)
        exact J_iret zd_H_speed_45 rfl (Nat.le_of_ble_eq_true rfl) (Nat.le_of_ble_eq_true rfl)
    · refine J_wid (k := 0) (n := 0) (Nat.le_of_ble_eq_true rfl) (Nat.le_of_ble_eq_true rfl) ?_
      refine J_keep [true, false, false, false, false, false, false] rfl ?_
      exact j_H_speed_19 E _ _
def b_H_move_17  (a0 : Nat)  (μ : Mem) : Option (LV × Mem) := cV 9 a0 μ (bI (f_H_refuse a0 (-1) μ) (fun v2 μ1 => (some (.inl v2, μ1))))
set_option maxRecDepth 20000 in
theorem j_H_move_17 (E : EV) (a0 : Nat)  (μ : Mem)  : J E I_H_move (rmk 5 0 0) (QR E I_H_move (rmk 5 0 0)) 0 0 μ 17 [some (.inr a0), none, none, none, none] [] (b_H_move_17 a0 μ) := by
  unfold b_H_move_17
  refine J_aload_n zd_H_move_17 rfl ?_
  refine J_iconst (v := (-1)) zd_H_move_18 (by decide) ?_
  refine J_callVi (ci := 9) (as := [.inl _]) zd_H_move_19 zm_H_refuse ⟨Nat.le_of_ble_eq_true rfl, Nat.le_of_ble_eq_true rfl⟩ zw_214 zw_216 zs_0 (by decide) rfl rfl (Nat.le_of_ble_eq_true rfl) ⟨Nat.le_of_ble_eq_true rfl, Nat.le_of_ble_eq_true rfl⟩ rfl rfl (c_H_refuse E _ _ _) (fun v2 μ1 => ?_)
  exact J_iret zd_H_move_22 rfl (Nat.le_of_ble_eq_true rfl) (Nat.le_of_ble_eq_true rfl)
def f_H_move (a0 : Nat) (a1 : Int32) (a2 : Int32) (μ : Mem) : Option (LV × Mem) := cV 9 a0 μ (bR (f_H_boatAt a0 a1 μ) (fun r4 μ3 => (if r4 = 0 then (b_H_move_17 a0 μ3) else bI (f_H_isStation a2 μ3) (fun v6 μ5 => (if v6 = 0 then (b_H_move_17 a0 μ5) else gI 9 a0 12 μ5 (fun v7 => cV 0 r4 μ5 (bI (f_B_isAway r4 v7 μ5) (fun v9 μ8 => (if v9 = 0 then gI 0 r4 2 μ8 (fun v10 => pI 0 r4 2 a2 μ8 (fun μ11 => (some (.inl v10, μ11)))) else cV 9 a0 μ8 (bI (f_H_refuse a0 (-3) μ8) (fun v13 μ12 => (some (.inl v13, μ12)))))))))))))
set_option maxRecDepth 20000 in
theorem c_H_move (E : EV) (a0 : Nat) (a1 : Int32) (a2 : Int32) (μ : Mem) : Ct E I_H_move (rmk 5 0 0) [.inr a0, .inl a1, .inl a2] μ (f_H_move a0 a1 a2 μ) := by
  refine Ct.of (k := 2) (by decide +kernel) rfl ?_
  show J E I_H_move (rmk 5 0 0) (QR E I_H_move (rmk 5 0 0)) 0 0 μ 0 [some (.inr a0), some (.inl a1), some (.inl a2), none, none] [] (f_H_move a0 a1 a2 μ)
  unfold f_H_move
  refine J_aload_n zd_H_move_0 rfl ?_
  refine J_iload_n zd_H_move_1 rfl ?_
  refine J_callVr (ci := 9) (as := [.inl _]) zd_H_move_2 zm_H_boatAt ⟨Nat.le_of_ble_eq_true rfl, Nat.le_of_ble_eq_true rfl⟩ zw_459 zw_461 zs_8 (by decide) rfl rfl (Nat.le_of_ble_eq_true rfl) ⟨Nat.le_of_ble_eq_true rfl, Nat.le_of_ble_eq_true rfl⟩ rfl rfl (c_H_boatAt E _ _ _) (fun r4 μ3 => ?_)
  refine J_astore_n (lv' := [some _, some _, some _, some _, none]) zd_H_move_5 (Nat.le_of_ble_eq_true rfl) rfl ?_
  refine J_aload_n zd_H_move_6 rfl ?_
  refine J_ifnull (tgt := 17) zd_H_move_7 rfl ?_ ?_
  · refine J_wid (k := 0) (n := 0) (Nat.le_of_ble_eq_true rfl) (Nat.le_of_ble_eq_true rfl) ?_
    refine J_keep [true, false, false, false, false] rfl ?_
    exact j_H_move_17 E _ _
  · refine J_iload_n zd_H_move_10 rfl ?_
    refine J_callSi (as := [.inl _]) zd_H_move_11 zm_H_isStation ⟨Nat.le_of_ble_eq_true rfl, Nat.le_of_ble_eq_true rfl⟩ zw_211 zw_212 rfl (Nat.le_of_ble_eq_true rfl) ⟨Nat.le_of_ble_eq_true rfl, Nat.le_of_ble_eq_true rfl⟩ rfl rfl (c_H_isStation E _ _) (fun v6 μ5 => ?_)
    refine J_if_ne (tgt := 23) zd_H_move_14 rfl ?_ ?_
    · refine J_aload_n zd_H_move_23 rfl ?_
      refine J_aload_n zd_H_move_24 rfl ?_
      refine J_gI zd_H_move_25 zf_H_70 rfl (fun v7 => ?_)
      refine J_callVi (ci := 0) (as := [.inl _]) zd_H_move_28 zm_B_isAway ⟨Nat.le_of_ble_eq_true rfl, Nat.le_of_ble_eq_true rfl⟩ zw_470 zw_471 zw_472 (by decide) rfl rfl (Nat.le_of_ble_eq_true rfl) ⟨Nat.le_of_ble_eq_true rfl, Nat.le_of_ble_eq_true rfl⟩ rfl rfl (c_B_isAway E _ _ _) (fun v9 μ8 => ?_)
      refine J_if_eq (tgt := 41) zd_H_move_31 rfl ?_ ?_
      · refine J_aload_n zd_H_move_41 rfl ?_
        refine J_gI zd_H_move_42 zf_H_179 rfl (fun v10 => ?_)
        refine J_istore (lv' := [some _, some _, some _, some _, some _]) zd_H_move_45 (Nat.le_of_ble_eq_true rfl) rfl ?_
        refine J_aload_n zd_H_move_47 rfl ?_
        refine J_iload_n zd_H_move_48 rfl ?_
        refine J_pI zd_H_move_49 zf_H_179 ⟨zt_B, zn_B, Or.inl rfl⟩ rfl rfl (fun μ11 => ?_)
        refine J_iload zd_H_move_52 rfl ?_
        exact J_iret zd_H_move_54 rfl (Nat.le_of_ble_eq_true rfl) (Nat.le_of_ble_eq_true rfl)
      · refine J_aload_n zd_H_move_34 rfl ?_
        refine J_bipush (v := (-3)) zd_H_move_35 (by decide) ?_
        refine J_callVi (ci := 9) (as := [.inl _]) zd_H_move_37 zm_H_refuse ⟨Nat.le_of_ble_eq_true rfl, Nat.le_of_ble_eq_true rfl⟩ zw_214 zw_216 zs_0 (by decide) rfl rfl (Nat.le_of_ble_eq_true rfl) ⟨Nat.le_of_ble_eq_true rfl, Nat.le_of_ble_eq_true rfl⟩ rfl rfl (c_H_refuse E _ _ _) (fun v13 μ12 => ?_)
        exact J_iret zd_H_move_40 rfl (Nat.le_of_ble_eq_true rfl) (Nat.le_of_ble_eq_true rfl)
    · refine J_wid (k := 0) (n := 0) (Nat.le_of_ble_eq_true rfl) (Nat.le_of_ble_eq_true rfl) ?_
      refine J_keep [true, false, false, false, false] rfl ?_
      exact j_H_move_17 E _ _
def b_H_call_21  (a0 : Nat)  (μ : Mem) : Option (LV × Mem) := cV 9 a0 μ (bI (f_H_refuse a0 (-4) μ) (fun v2 μ1 => (some (.inl v2, μ1))))
set_option maxRecDepth 20000 in
theorem j_H_call_21 (E : EV) (a0 : Nat)  (μ : Mem)  : J E I_H_call (rmk 8 2 67) (QR E I_H_call (rmk 8 2 67)) 0 0 μ 21 [some (.inr a0), none, none, none] [] (b_H_call_21 a0 μ) := by
  unfold b_H_call_21
  refine J_aload_n zd_H_call_21 rfl ?_
  refine J_bipush (v := (-4)) zd_H_call_22 (by decide) ?_
  refine J_callVi (ci := 9) (as := [.inl _]) zd_H_call_24 zm_H_refuse ⟨Nat.le_of_ble_eq_true rfl, Nat.le_of_ble_eq_true rfl⟩ zw_214 zw_216 zs_0 (by decide) rfl rfl (Nat.le_of_ble_eq_true rfl) ⟨Nat.le_of_ble_eq_true rfl, Nat.le_of_ble_eq_true rfl⟩ rfl rfl (c_H_refuse E _ _ _) (fun v2 μ1 => ?_)
  exact J_iret zd_H_call_27 rfl (Nat.le_of_ble_eq_true rfl) (Nat.le_of_ble_eq_true rfl)
def b_H_call_53  (a0 : Nat)  (μ : Mem) : Option (LV × Mem) := cV 9 a0 μ (bI (f_H_refuse a0 (-6) μ) (fun v4 μ3 => (some (.inl v4, μ3))))
set_option maxRecDepth 20000 in
theorem j_H_call_53 (E : EV) (a0 : Nat)  (μ : Mem)  : J E I_H_call (rmk 8 2 67) (QR E I_H_call (rmk 8 2 67)) 0 0 μ 53 [some (.inr a0), none, none, none] [] (b_H_call_53 a0 μ) := by
  unfold b_H_call_53
  refine J_aload_n zd_H_call_53 rfl ?_
  refine J_bipush (v := (-6)) zd_H_call_54 (by decide) ?_
  refine J_callVi (ci := 9) (as := [.inl _]) zd_H_call_56 zm_H_refuse ⟨Nat.le_of_ble_eq_true rfl, Nat.le_of_ble_eq_true rfl⟩ zw_214 zw_216 zs_0 (by decide) rfl rfl (Nat.le_of_ble_eq_true rfl) ⟨Nat.le_of_ble_eq_true rfl, Nat.le_of_ble_eq_true rfl⟩ rfl rfl (c_H_refuse E _ _ _) (fun v4 μ3 => ?_)
  exact J_iret zd_H_call_59 rfl (Nat.le_of_ble_eq_true rfl) (Nat.le_of_ble_eq_true rfl)
def f_H_call (a0 : Nat) (a1 : Int32) (a2 : Int32) (a3 : Int32) (μ : Mem) : Option (LV × Mem) := bI (f_H_isSea a3 μ) (fun v6 μ5 => (if v6 = 0 then cV 9 a0 μ5 (bI (f_H_refuse a0 (-1) μ5) (fun v20 μ19 => (some (.inl v20, μ19)))) else (if a1 < 0 then (b_H_call_21 a0 μ5) else (if 0 ≤ a2 then (if 300 < a1 then (b_H_call_53 a0 μ5) else (if 60 < a2 then (b_H_call_53 a0 μ5) else gR 9 a0 4 μ5 (fun r7 => cV 11 r7 μ5 (bI (f_AL_size r7 μ5) (fun v9 μ8 => (if v9 < 20 then gR 9 a0 4 μ8 (fun r10 => nO μ8 (4, 0) (fun h11 μ12 => cN h11 (bV (f_C_init h11 a1 a2 a3 μ12) (fun μ13 => cV 11 r10 μ13 (bI (f_AL_add1 r10 h11 μ13) (fun v15 μ14 => gR 9 a0 4 μ14 (fun r16 => cV 11 r16 μ14 (bI (f_AL_size r16 μ14) (fun v18 μ17 => (some (.inl (v18 - 1), μ17))))))))))) else (b_H_call_53 a0 μ8))))))) else (b_H_call_21 a0 μ5)))))
set_option maxRecDepth 20000 in
theorem c_H_call (E : EV) (a0 : Nat) (a1 : Int32) (a2 : Int32) (a3 : Int32) (μ : Mem) : Ct E I_H_call (rmk 8 2 67) [.inr a0, .inl a1, .inl a2, .inl a3] μ (f_H_call a0 a1 a2 a3 μ) := by
  refine Ct.of (k := 0) (by decide +kernel) rfl ?_
  show J E I_H_call (rmk 8 2 67) (QR E I_H_call (rmk 8 2 67)) 0 0 μ 0 [some (.inr a0), some (.inl a1), some (.inl a2), some (.inl a3)] [] (f_H_call a0 a1 a2 a3 μ)
  unfold f_H_call
  refine J_iload_n zd_H_call_0 rfl ?_
  refine J_callSi (as := [.inl _]) zd_H_call_1 zm_H_isSea ⟨Nat.le_of_ble_eq_true rfl, Nat.le_of_ble_eq_true rfl⟩ zw_463 zw_464 rfl (Nat.le_of_ble_eq_true rfl) ⟨Nat.le_of_ble_eq_true rfl, Nat.le_of_ble_eq_true rfl⟩ rfl rfl (c_H_isSea E _ _) (fun v6 μ5 => ?_)
  refine J_if_ne (tgt := 13) zd_H_call_4 rfl ?_ ?_
  · refine J_iload_n zd_H_call_13 rfl ?_
    refine J_if_lt (tgt := 21) zd_H_call_14 rfl ?_ ?_
    · refine J_wid (k := 0) (n := 0) (Nat.le_of_ble_eq_true rfl) (Nat.le_of_ble_eq_true rfl) ?_
      refine J_keep [true, false, false, false] rfl ?_
      exact j_H_call_21 E _ _
    · refine J_iload_n zd_H_call_17 rfl ?_
      refine J_if_ge (tgt := 28) zd_H_call_18 rfl ?_ ?_
      · refine J_iload_n zd_H_call_28 rfl ?_
        refine J_sipush (v := 300) zd_H_call_29 (by decide) ?_
        refine J_icmp_gt (tgt := 53) zd_H_call_32 rfl ?_ ?_
        · refine J_wid (k := 0) (n := 0) (Nat.le_of_ble_eq_true rfl) (Nat.le_of_ble_eq_true rfl) ?_
          refine J_keep [true, false, false, false] rfl ?_
          exact j_H_call_53 E _ _
        · refine J_iload_n zd_H_call_35 rfl ?_
          refine J_bipush (v := 60) zd_H_call_36 (by decide) ?_
          refine J_icmp_gt (tgt := 53) zd_H_call_38 rfl ?_ ?_
          · refine J_wid (k := 0) (n := 0) (Nat.le_of_ble_eq_true rfl) (Nat.le_of_ble_eq_true rfl) ?_
            refine J_keep [true, false, false, false] rfl ?_
            exact j_H_call_53 E _ _
          · refine J_aload_n zd_H_call_41 rfl ?_
            refine J_gR zd_H_call_42 zf_H_26 rfl (fun r7 => ?_)
            refine J_callVi (ci := 11) (as := []) zd_H_call_45 zm_AL_size ⟨Nat.le_of_ble_eq_true rfl, Nat.le_of_ble_eq_true rfl⟩ zw_225 zw_226 zw_227 (by decide) rfl rfl (Nat.le_of_ble_eq_true rfl) ⟨Nat.le_of_ble_eq_true rfl, Nat.le_of_ble_eq_true rfl⟩ rfl rfl (c_AL_size E _ _) (fun v9 μ8 => ?_)
            refine J_bipush (v := 20) zd_H_call_48 (by decide) ?_
            refine J_icmp_lt (tgt := 60) zd_H_call_50 rfl ?_ ?_
            · refine J_aload_n zd_H_call_60 rfl ?_
              refine J_gR zd_H_call_61 zf_H_26 rfl (fun r10 => ?_)
              refine J_new (ci := 1) zd_H_call_64 ⟨rfl, zi_C, zt_C, zv_C, zw_478, zw_479, zw_19⟩ (Nat.le_of_ble_eq_true rfl) (Nat.le_of_ble_eq_true rfl) (fun h11 μ12 => ?_)
              refine J_dup zd_H_call_67 ?_
              refine J_iload_n zd_H_call_68 rfl ?_
              refine J_iload_n zd_H_call_69 rfl ?_
              refine J_iload_n zd_H_call_70 rfl ?_
              refine J_callI (as := [.inl _, .inl _, .inl _]) zd_H_call_71 zm_C_init ⟨Nat.le_of_ble_eq_true rfl, Nat.le_of_ble_eq_true rfl⟩ zw_480 zw_481 rfl rfl (Nat.le_of_ble_eq_true rfl) ⟨Nat.le_of_ble_eq_true rfl, Nat.le_of_ble_eq_true rfl⟩ rfl rfl (c_C_init E _ _ _ _ _) (fun μ13 => ?_)
              refine J_callVi (ci := 11) (as := [.inr _]) zd_H_call_74 zm_AL_add1 ⟨Nat.le_of_ble_eq_true rfl, Nat.le_of_ble_eq_true rfl⟩ zw_260 zw_261 zw_262 (by decide) rfl rfl (Nat.le_of_ble_eq_true rfl) ⟨Nat.le_of_ble_eq_true rfl, Nat.le_of_ble_eq_true rfl⟩ rfl rfl (c_AL_add1 E _ _ _) (fun v15 μ14 => ?_)
              refine J_pop zd_H_call_77 ?_
              refine J_aload_n zd_H_call_78 rfl ?_
              refine J_gR zd_H_call_79 zf_H_26 rfl (fun r16 => ?_)
              refine J_callVi (ci := 11) (as := []) zd_H_call_82 zm_AL_size ⟨Nat.le_of_ble_eq_true rfl, Nat.le_of_ble_eq_true rfl⟩ zw_225 zw_226 zw_227 (by decide) rfl rfl (Nat.le_of_ble_eq_true rfl) ⟨Nat.le_of_ble_eq_true rfl, Nat.le_of_ble_eq_true rfl⟩ rfl rfl (c_AL_size E _ _) (fun v18 μ17 => ?_)
              refine J_iconst (v := 1) zd_H_call_85 (by decide) ?_
              refine J_isub zd_H_call_86 ?_
              exact J_iret zd_H_call_87 rfl (Nat.le_of_ble_eq_true rfl) (Nat.le_of_ble_eq_true rfl)
            · refine J_wid (k := 0) (n := 0) (Nat.le_of_ble_eq_true rfl) (Nat.le_of_ble_eq_true rfl) ?_
              refine J_keep [true, false, false, false] rfl ?_
              exact j_H_call_53 E _ _
      · refine J_wid (k := 0) (n := 0) (Nat.le_of_ble_eq_true rfl) (Nat.le_of_ble_eq_true rfl) ?_
        refine J_keep [true, false, false, false] rfl ?_
        exact j_H_call_21 E _ _
  · refine J_aload_n zd_H_call_7 rfl ?_
    refine J_iconst (v := (-1)) zd_H_call_8 (by decide) ?_
    refine J_callVi (ci := 9) (as := [.inl _]) zd_H_call_9 zm_H_refuse ⟨Nat.le_of_ble_eq_true rfl, Nat.le_of_ble_eq_true rfl⟩ zw_214 zw_216 zs_0 (by decide) rfl rfl (Nat.le_of_ble_eq_true rfl) ⟨Nat.le_of_ble_eq_true rfl, Nat.le_of_ble_eq_true rfl⟩ rfl rfl (c_H_refuse E _ _ _) (fun v20 μ19 => ?_)
    exact J_iret zd_H_call_12 rfl (Nat.le_of_ble_eq_true rfl) (Nat.le_of_ble_eq_true rfl)
def f_H_callAt (a0 : Nat) (a1 : Int32) (μ : Mem) : Option (LV × Mem) := (if a1 < 0 then (some (.inr 0, μ)) else gR 9 a0 4 μ (fun r1 => cV 11 r1 μ (bI (f_AL_size r1 μ) (fun v3 μ2 => (if v3 ≤ a1 then (some (.inr 0, μ2)) else gR 9 a0 4 μ2 (fun r4 => cV 11 r4 μ2 (bR (f_AL_get r4 a1 μ2) (fun r6 μ5 => cC 1 r6 μ5 ((some (.inr r6, μ5)))))))))))
set_option maxRecDepth 20000 in
theorem c_H_callAt (E : EV) (a0 : Nat) (a1 : Int32) (μ : Mem) : Ct E I_H_callAt (rmk 4 0 0) [.inr a0, .inl a1] μ (f_H_callAt a0 a1 μ) := by
  refine Ct.of (k := 0) (by decide +kernel) rfl ?_
  show J E I_H_callAt (rmk 4 0 0) (QR E I_H_callAt (rmk 4 0 0)) 0 0 μ 0 [some (.inr a0), some (.inl a1)] [] (f_H_callAt a0 a1 μ)
  unfold f_H_callAt
  refine J_iload_n zd_H_callAt_0 rfl ?_
  refine J_if_lt (tgt := 29) zd_H_callAt_1 rfl ?_ ?_
  · refine J_null zd_H_callAt_29 ?_
    exact J_aret zd_H_callAt_30 rfl (Or.inl ⟨_, rfl⟩) (Nat.le_of_ble_eq_true rfl) (Nat.le_of_ble_eq_true rfl)
  · refine J_iload_n zd_H_callAt_4 rfl ?_
    refine J_aload_n zd_H_callAt_5 rfl ?_
    refine J_gR zd_H_callAt_6 zf_H_26 rfl (fun r1 => ?_)
    refine J_callVi (ci := 11) (as := []) zd_H_callAt_9 zm_AL_size ⟨Nat.le_of_ble_eq_true rfl, Nat.le_of_ble_eq_true rfl⟩ zw_225 zw_226 zw_227 (by decide) rfl rfl (Nat.le_of_ble_eq_true rfl) ⟨Nat.le_of_ble_eq_true rfl, Nat.le_of_ble_eq_true rfl⟩ rfl rfl (c_AL_size E _ _) (fun v3 μ2 => ?_)
    refine J_icmp_ge (tgt := 29) zd_H_callAt_12 rfl ?_ ?_
    · refine J_null zd_H_callAt_29 ?_
      exact J_aret zd_H_callAt_30 rfl (Or.inl ⟨_, rfl⟩) (Nat.le_of_ble_eq_true rfl) (Nat.le_of_ble_eq_true rfl)
    · refine J_aload_n zd_H_callAt_15 rfl ?_
      refine J_gR zd_H_callAt_16 zf_H_26 rfl (fun r4 => ?_)
      refine J_iload_n zd_H_callAt_19 rfl ?_
      refine J_callVr (ci := 11) (as := [.inl _]) zd_H_callAt_20 zm_AL_get ⟨Nat.le_of_ble_eq_true rfl, Nat.le_of_ble_eq_true rfl⟩ zw_327 zw_328 zw_329 (by decide) rfl rfl (Nat.le_of_ble_eq_true rfl) ⟨Nat.le_of_ble_eq_true rfl, Nat.le_of_ble_eq_true rfl⟩ rfl rfl (c_AL_get E _ _ _) (fun r6 μ5 => ?_)
      refine J_cast (ci := 1) zd_H_callAt_23 (by decide) rfl zw_478 ?_
      refine J_goto (tgt := 30) zd_H_callAt_26 rfl ?_
      exact J_aret zd_H_callAt_30 rfl (Or.inl ⟨_, rfl⟩) (Nat.le_of_ble_eq_true rfl) (Nat.le_of_ble_eq_true rfl)
def f_H_wayOf (a0 : Nat) (a1 : Nat) (a2 : Nat) (μ : Mem) : Option (LV × Mem) := gR 9 a0 0 μ (fun r1 => gI 0 a1 2 μ (fun v2 => aI r1 v2 μ (fun v3 => gI 1 a2 0 μ (fun v4 => bI (f_MA_abs (v3 - v4) μ) (fun v6 μ5 => gI 1 a2 1 μ5 (fun v7 => (some (.inl (v6 + v7), μ5))))))))
set_option maxRecDepth 20000 in
theorem c_H_wayOf (E : EV) (a0 : Nat) (a1 : Nat) (a2 : Nat) (μ : Mem) : Ct E I_H_wayOf (rmk 2 0 0) [.inr a0, .inr a1, .inr a2] μ (f_H_wayOf a0 a1 a2 μ) := by
  refine Ct.of (k := 0) (by decide +kernel) rfl ?_
  show J E I_H_wayOf (rmk 2 0 0) (QR E I_H_wayOf (rmk 2 0 0)) 0 0 μ 0 [some (.inr a0), some (.inr a1), some (.inr a2)] [] (f_H_wayOf a0 a1 a2 μ)
  unfold f_H_wayOf
  refine J_aload_n zd_H_wayOf_0 rfl ?_
  refine J_gR zd_H_wayOf_1 zf_H_9 rfl (fun r1 => ?_)
  refine J_aload_n zd_H_wayOf_4 rfl ?_
  refine J_gI zd_H_wayOf_5 zf_H_179 rfl (fun v2 => ?_)
  refine J_aI zd_H_wayOf_8 (fun v3 => ?_)
  refine J_aload_n zd_H_wayOf_9 rfl ?_
  refine J_gI zd_H_wayOf_10 zf_H_237 rfl (fun v4 => ?_)
  refine J_isub zd_H_wayOf_13 ?_
  refine J_callSi (as := [.inl _]) zd_H_wayOf_14 zm_MA_abs ⟨Nat.le_of_ble_eq_true rfl, Nat.le_of_ble_eq_true rfl⟩ zw_513 zw_514 rfl (Nat.le_of_ble_eq_true rfl) ⟨Nat.le_of_ble_eq_true rfl, Nat.le_of_ble_eq_true rfl⟩ rfl rfl (c_MA_abs E _ _) (fun v6 μ5 => ?_)
  refine J_aload_n zd_H_wayOf_17 rfl ?_
  refine J_gI zd_H_wayOf_18 zf_H_242 rfl (fun v7 => ?_)
  refine J_iadd zd_H_wayOf_21 ?_
  exact J_iret zd_H_wayOf_22 rfl (Nat.le_of_ble_eq_true rfl) (Nat.le_of_ble_eq_true rfl)
def f_H_cutUp (a0 : Int32) (a1 : Int32) (μ : Mem) : Option (LV × Mem) := (if 1 ≤ a1 then idv ((a0 + a1) - 1) a1 (fun v1 => (some (.inl v1, μ))) else (some (.inl 0, μ)))
set_option maxRecDepth 20000 in
theorem c_H_cutUp (E : EV) (a0 : Int32) (a1 : Int32) (μ : Mem) : Ct E I_H_cutUp (rmk 1 0 0) [.inl a0, .inl a1] μ (f_H_cutUp a0 a1 μ) := by
  refine Ct.of (k := 0) (by decide +kernel) rfl ?_
  show J E I_H_cutUp (rmk 1 0 0) (QR E I_H_cutUp (rmk 1 0 0)) 0 0 μ 0 [some (.inl a0), some (.inl a1)] [] (f_H_cutUp a0 a1 μ)
  unfold f_H_cutUp
  refine J_iload_n zd_H_cutUp_0 rfl ?_
  refine J_iconst (v := 1) zd_H_cutUp_1 (by decide) ?_
  refine J_icmp_ge (tgt := 9) zd_H_cutUp_2 rfl ?_ ?_
  · refine J_iload_n zd_H_cutUp_9 rfl ?_
    refine J_iload_n zd_H_cutUp_10 rfl ?_
    refine J_iadd zd_H_cutUp_11 ?_
    refine J_iconst (v := 1) zd_H_cutUp_12 (by decide) ?_
    refine J_isub zd_H_cutUp_13 ?_
    refine J_iload_n zd_H_cutUp_14 rfl ?_
    refine J_idiv zd_H_cutUp_15 (fun v1 => ?_)
    exact J_iret zd_H_cutUp_16 rfl (Nat.le_of_ble_eq_true rfl) (Nat.le_of_ble_eq_true rfl)
  · refine J_iconst (v := 0) zd_H_cutUp_5 (by decide) ?_
    refine J_goto (tgt := 16) zd_H_cutUp_6 rfl ?_
    exact J_iret zd_H_cutUp_16 rfl (Nat.le_of_ble_eq_true rfl) (Nat.le_of_ble_eq_true rfl)
def f_H_canGo (a0 : Nat) (a1 : Nat) (a2 : Nat) (μ : Mem) : Option (LV × Mem) := gR 0 a1 1 μ (fun r1 => gI 1 a2 2 μ (fun v2 => aI r1 v2 μ (fun v3 => (if v3 ≤ 0 then (some (.inl 0, μ)) else cV 9 a0 μ (bI (f_H_wayOf a0 a1 a2 μ) (fun v5 μ4 => bI (f_H_cutUp (2 * v5) v3 μ4) (fun v7 μ6 => gI 0 a1 0 μ6 (fun v8 => (if v8 < v7 then (some (.inl 0, μ6)) else (some (.inl 1, μ6)))))))))))
set_option maxRecDepth 20000 in
theorem c_H_canGo (E : EV) (a0 : Nat) (a1 : Nat) (a2 : Nat) (μ : Mem) : Ct E I_H_canGo (rmk 3 0 0) [.inr a0, .inr a1, .inr a2] μ (f_H_canGo a0 a1 a2 μ) := by
  refine Ct.of (k := 1) (by decide +kernel) rfl ?_
  show J E I_H_canGo (rmk 3 0 0) (QR E I_H_canGo (rmk 3 0 0)) 0 0 μ 0 [some (.inr a0), some (.inr a1), some (.inr a2), none] [] (f_H_canGo a0 a1 a2 μ)
  unfold f_H_canGo
  refine J_aload_n zd_H_canGo_0 rfl ?_
  refine J_gR zd_H_canGo_1 zf_H_173 rfl (fun r1 => ?_)
  refine J_aload_n zd_H_canGo_4 rfl ?_
  refine J_gI zd_H_canGo_5 zf_H_212 rfl (fun v2 => ?_)
  refine J_aI zd_H_canGo_8 (fun v3 => ?_)
  refine J_istore_n (lv' := [some _, some _, some _, some _]) zd_H_canGo_9 (Nat.le_of_ble_eq_true rfl) rfl ?_
  refine J_iload_n zd_H_canGo_10 rfl ?_
  refine J_if_le (tgt := 37) zd_H_canGo_11 rfl ?_ ?_
  · refine J_iconst (v := 0) zd_H_canGo_37 (by decide) ?_
    exact J_zret zd_H_canGo_38 rfl rfl (Nat.le_of_ble_eq_true rfl) (Nat.le_of_ble_eq_true rfl)
  · refine J_iconst (v := 2) zd_H_canGo_14 (by decide) ?_
    refine J_aload_n zd_H_canGo_15 rfl ?_
    refine J_aload_n zd_H_canGo_16 rfl ?_
    refine J_aload_n zd_H_canGo_17 rfl ?_
    refine J_callVi (ci := 9) (as := [.inr _, .inr _]) zd_H_canGo_18 zm_H_wayOf ⟨Nat.le_of_ble_eq_true rfl, Nat.le_of_ble_eq_true rfl⟩ zw_509 zw_511 zs_11 (by decide) rfl rfl (Nat.le_of_ble_eq_true rfl) ⟨Nat.le_of_ble_eq_true rfl, Nat.le_of_ble_eq_true rfl⟩ rfl rfl (c_H_wayOf E _ _ _ _) (fun v5 μ4 => ?_)
    refine J_imul zd_H_canGo_21 ?_
    refine J_iload_n zd_H_canGo_22 rfl ?_
    refine J_callSi (as := [.inl _, .inl _]) zd_H_canGo_23 zm_H_cutUp ⟨Nat.le_of_ble_eq_true rfl, Nat.le_of_ble_eq_true rfl⟩ zw_516 zw_517 rfl (Nat.le_of_ble_eq_true rfl) ⟨Nat.le_of_ble_eq_true rfl, Nat.le_of_ble_eq_true rfl⟩ rfl rfl (c_H_cutUp E _ _ _) (fun v7 μ6 => ?_)
    refine J_aload_n zd_H_canGo_26 rfl ?_
    refine J_gI zd_H_canGo_27 zf_H_245 rfl (fun v8 => ?_)
    refine J_icmp_gt (tgt := 37) zd_H_canGo_30 rfl ?_ ?_
    · refine J_iconst (v := 0) zd_H_canGo_37 (by decide) ?_
      exact J_zret zd_H_canGo_38 rfl rfl (Nat.le_of_ble_eq_true rfl) (Nat.le_of_ble_eq_true rfl)
    · refine J_iconst (v := 1) zd_H_canGo_33 (by decide) ?_
      refine J_goto (tgt := 38) zd_H_canGo_34 rfl ?_
      exact J_zret zd_H_canGo_38 rfl rfl (Nat.le_of_ble_eq_true rfl) (Nat.le_of_ble_eq_true rfl)
def k_H_launchMinute_39 (c61 : Int32 → Int32 → Mem → Option (LV × Mem)) (a0 : Nat) (a1 : Nat) (a3 : Int32) : Nat → Int32 → Mem → Option (LV × Mem)
  | 0, _, _ => none
  | n + 1, a4, μ => (if 48 < a4 then (some (.inl (-9), μ)) else gI 0 a1 2 μ (fun v1 => cV 9 a0 μ (bI (f_H_isOpen a0 v1 (a3 + a4) μ) (fun v3 μ2 => (if v3 = 0 then (k_H_launchMinute_39 c61 a0 a1 a3 n (a4 + 1) μ2) else (c61 a3 a4 μ2))))))
set_option maxRecDepth 20000 in
theorem j_H_launchMinute_39 (E : EV) (a0 : Nat) (a1 : Nat) (a3 : Int32) {c61 : Int32 → Int32 → Mem → Option (LV × Mem)} (h61 : ∀ (b3 : Int32) (b4 : Int32)  (μ : Mem), J E I_H_launchMinute (rmk 4 0 0) (QR E I_H_launchMinute (rmk 4 0 0)) 0 0 μ 61 [none, none, none, some (.inl b3), some (.inl b4)] [] (c61 b3 b4 μ)) : ∀ (n : Nat) (a4 : Int32) (μ : Mem), J E I_H_launchMinute (rmk 4 0 0) (QR E I_H_launchMinute (rmk 4 0 0)) 0 0 μ 39 [some (.inr a0), some (.inr a1), none, some (.inl a3), some (.inl a4)] [] (k_H_launchMinute_39 c61 a0 a1 a3 n a4 μ)
  | 0, _, _ => J_none
  | n + 1, a4, μ => by
    show J E I_H_launchMinute (rmk 4 0 0) (QR E I_H_launchMinute (rmk 4 0 0)) 0 0 μ 39 [some (.inr a0), some (.inr a1), none, some (.inl a3), some (.inl a4)] [] ((if 48 < a4 then (some (.inl (-9), μ)) else gI 0 a1 2 μ (fun v1 => cV 9 a0 μ (bI (f_H_isOpen a0 v1 (a3 + a4) μ) (fun v3 μ2 => (if v3 = 0 then (k_H_launchMinute_39 c61 a0 a1 a3 n (a4 + 1) μ2) else (c61 a3 a4 μ2)))))))
    refine J_iload zd_H_launchMinute_39 rfl ?_
    refine J_bipush (v := 48) zd_H_launchMinute_41 (by decide) ?_
    refine J_icmp_gt (tgt := 75) zd_H_launchMinute_43 rfl ?_ ?_
    · refine J_bipush (v := (-9)) zd_H_launchMinute_75 (by decide) ?_
      exact J_iret zd_H_launchMinute_77 rfl (Nat.le_of_ble_eq_true rfl) (Nat.le_of_ble_eq_true rfl)
    · refine J_aload_n zd_H_launchMinute_46 rfl ?_
      refine J_aload_n zd_H_launchMinute_47 rfl ?_
      refine J_gI zd_H_launchMinute_48 zf_H_179 rfl (fun v1 => ?_)
      refine J_iload_n zd_H_launchMinute_51 rfl ?_
      refine J_iload zd_H_launchMinute_52 rfl ?_
      refine J_iadd zd_H_launchMinute_54 ?_
      refine J_callVi (ci := 9) (as := [.inl _, .inl _]) zd_H_launchMinute_55 zm_H_isOpen ⟨Nat.le_of_ble_eq_true rfl, Nat.le_of_ble_eq_true rfl⟩ zw_412 zw_414 zs_7 (by decide) rfl rfl (Nat.le_of_ble_eq_true rfl) ⟨Nat.le_of_ble_eq_true rfl, Nat.le_of_ble_eq_true rfl⟩ rfl rfl (c_H_isOpen E _ _ _ _) (fun v3 μ2 => ?_)
      refine J_if_eq (tgt := 69) zd_H_launchMinute_58 rfl ?_ ?_
      · refine J_iinc (v := _ + 1) (lv' := [some _, some _, none, some _, some _]) zd_H_launchMinute_69 (Nat.le_of_ble_eq_true rfl) rfl (by rfl) rfl ?_
        refine J_goto (tgt := 39) zd_H_launchMinute_72 rfl ?_
        refine J_wid (k := 0) (n := 0) (Nat.le_of_ble_eq_true rfl) (Nat.le_of_ble_eq_true rfl) ?_
        refine J_keep [true, true, false, true, true] rfl ?_
        exact j_H_launchMinute_39 E a0 a1 a3 h61 n _ _
      · refine J_wid (k := 0) (n := 0) (Nat.le_of_ble_eq_true rfl) (Nat.le_of_ble_eq_true rfl) ?_
        refine J_keep [false, false, false, true, true] rfl ?_
        exact h61 _ _ _
def b_H_launchMinute_61  (a3 : Int32) (a4 : Int32)  (μ : Mem) : Option (LV × Mem) := (some (.inl ((a3 + a4) * 60), μ))
set_option maxRecDepth 20000 in
theorem j_H_launchMinute_61 (E : EV) (a3 : Int32) (a4 : Int32)  (μ : Mem)  : J E I_H_launchMinute (rmk 4 0 0) (QR E I_H_launchMinute (rmk 4 0 0)) 0 0 μ 61 [none, none, none, some (.inl a3), some (.inl a4)] [] (b_H_launchMinute_61 a3 a4 μ) := by
  unfold b_H_launchMinute_61
  refine J_iload_n zd_H_launchMinute_61 rfl ?_
  refine J_iload zd_H_launchMinute_62 rfl ?_
  refine J_iadd zd_H_launchMinute_64 ?_
  refine J_bipush (v := 60) zd_H_launchMinute_65 (by decide) ?_
  refine J_imul zd_H_launchMinute_67 ?_
  exact J_iret zd_H_launchMinute_68 rfl (Nat.le_of_ble_eq_true rfl) (Nat.le_of_ble_eq_true rfl)
def f_H_launchMinute (a0 : Nat) (a1 : Nat) (μ : Mem) : Option (LV × Mem) := gI 9 a0 12 μ (fun v4 => gI 0 a1 3 μ (fun v5 => bI (f_MA_max v4 v5 μ) (fun v7 μ6 => gI 9 a0 14 μ6 (fun v8 => nm (v7 + v8) (fun v9 => nm (v9 / 60) (fun v10 => gI 0 a1 2 μ6 (fun v11 => cV 9 a0 μ6 (bI (f_H_isOpen a0 v11 v10 μ6) (fun v13 μ12 => (if v13 = 0 then (k_H_launchMinute_39 (fun b3 b4 m_ => b_H_launchMinute_61 b3 b4 m_) a0 a1 v10 120000 1 μ12) else (some (.inl v9, μ12))))))))))))
set_option maxRecDepth 20000 in
theorem c_H_launchMinute (E : EV) (a0 : Nat) (a1 : Nat) (μ : Mem) : Ct E I_H_launchMinute (rmk 4 0 0) [.inr a0, .inr a1] μ (f_H_launchMinute a0 a1 μ) := by
  refine Ct.of (k := 3) (by decide +kernel) rfl ?_
  show J E I_H_launchMinute (rmk 4 0 0) (QR E I_H_launchMinute (rmk 4 0 0)) 0 0 μ 0 [some (.inr a0), some (.inr a1), none, none, none] [] (f_H_launchMinute a0 a1 μ)
  unfold f_H_launchMinute
  refine J_aload_n zd_H_launchMinute_0 rfl ?_
  refine J_gI zd_H_launchMinute_1 zf_H_70 rfl (fun v4 => ?_)
  refine J_aload_n zd_H_launchMinute_4 rfl ?_
  refine J_gI zd_H_launchMinute_5 zf_H_231 rfl (fun v5 => ?_)
  refine J_callSi (as := [.inl _, .inl _]) zd_H_launchMinute_8 zm_MA_max ⟨Nat.le_of_ble_eq_true rfl, Nat.le_of_ble_eq_true rfl⟩ zw_523 zw_280 rfl (Nat.le_of_ble_eq_true rfl) ⟨Nat.le_of_ble_eq_true rfl, Nat.le_of_ble_eq_true rfl⟩ rfl rfl (c_MA_max E _ _ _) (fun v7 μ6 => ?_)
  refine J_aload_n zd_H_launchMinute_11 rfl ?_
  refine J_gI zd_H_launchMinute_12 zf_H_77 rfl (fun v8 => ?_)
  refine J_iadd zd_H_launchMinute_15 ?_
  refine J_nm (fun v9 => ?_)
  refine J_istore_n (lv' := [some _, some _, some _, none, none]) zd_H_launchMinute_16 (Nat.le_of_ble_eq_true rfl) rfl ?_
  refine J_iload_n zd_H_launchMinute_17 rfl ?_
  refine J_bipush (v := 60) zd_H_launchMinute_18 (by decide) ?_
  refine J_idivL zd_H_launchMinute_20 (by decide) ?_
  refine J_nm (fun v10 => ?_)
  refine J_istore_n (lv' := [some _, some _, some _, some _, none]) zd_H_launchMinute_21 (Nat.le_of_ble_eq_true rfl) rfl ?_
  refine J_aload_n zd_H_launchMinute_22 rfl ?_
  refine J_aload_n zd_H_launchMinute_23 rfl ?_
  refine J_gI zd_H_launchMinute_24 zf_H_179 rfl (fun v11 => ?_)
  refine J_iload_n zd_H_launchMinute_27 rfl ?_
  refine J_callVi (ci := 9) (as := [.inl _, .inl _]) zd_H_launchMinute_28 zm_H_isOpen ⟨Nat.le_of_ble_eq_true rfl, Nat.le_of_ble_eq_true rfl⟩ zw_412 zw_414 zs_7 (by decide) rfl rfl (Nat.le_of_ble_eq_true rfl) ⟨Nat.le_of_ble_eq_true rfl, Nat.le_of_ble_eq_true rfl⟩ rfl rfl (c_H_isOpen E _ _ _ _) (fun v13 μ12 => ?_)
  refine J_if_eq (tgt := 36) zd_H_launchMinute_31 rfl ?_ ?_
  · refine J_iconst (v := 1) zd_H_launchMinute_36 (by decide) ?_
    refine J_istore (lv' := [some _, some _, some _, some _, some _]) zd_H_launchMinute_37 (Nat.le_of_ble_eq_true rfl) rfl ?_
    refine J_wid (k := 0) (n := 0) (Nat.le_of_ble_eq_true rfl) (Nat.le_of_ble_eq_true rfl) ?_
    refine J_keep [true, true, false, true, true] rfl ?_
    exact j_H_launchMinute_39 E _ _ _ (fun b3 b4 m_ => j_H_launchMinute_61 E b3 b4 m_) _ _ _
  · refine J_iload_n zd_H_launchMinute_34 rfl ?_
    exact J_iret zd_H_launchMinute_35 rfl (Nat.le_of_ble_eq_true rfl) (Nat.le_of_ble_eq_true rfl)
def f_H_reachedMinute (a0 : Nat) (a1 : Nat) (a2 : Nat) (μ : Mem) : Option (LV × Mem) := cV 9 a0 μ (bI (f_H_canGo a0 a1 a2 μ) (fun v2 μ1 => (if v2 = 0 then (some (.inl (-9), μ1)) else cV 9 a0 μ1 (bI (f_H_launchMinute a0 a1 μ1) (fun v4 μ3 => (if v4 = (-9) then (some (.inl (-9), μ3)) else cV 9 a0 μ3 (bI (f_H_wayOf a0 a1 a2 μ3) (fun v6 μ5 => gR 0 a1 1 μ5 (fun r7 => gI 1 a2 2 μ5 (fun v8 => aI r7 v8 μ5 (fun v9 => bI (f_H_cutUp (v6 * 60) v9 μ5) (fun v11 μ10 => (some (.inl (v4 + v11), μ10))))))))))))))
set_option maxRecDepth 20000 in
theorem c_H_reachedMinute (E : EV) (a0 : Nat) (a1 : Nat) (a2 : Nat) (μ : Mem) : Ct E I_H_reachedMinute (rmk 5 0 0) [.inr a0, .inr a1, .inr a2] μ (f_H_reachedMinute a0 a1 a2 μ) := by
  refine Ct.of (k := 1) (by decide +kernel) rfl ?_
  show J E I_H_reachedMinute (rmk 5 0 0) (QR E I_H_reachedMinute (rmk 5 0 0)) 0 0 μ 0 [some (.inr a0), some (.inr a1), some (.inr a2), none] [] (f_H_reachedMinute a0 a1 a2 μ)
  unfold f_H_reachedMinute
  refine J_aload_n zd_H_reachedMinute_0 rfl ?_
  refine J_aload_n zd_H_reachedMinute_1 rfl ?_
  refine J_aload_n zd_H_reachedMinute_2 rfl ?_
  refine J_callVi (ci := 9) (as := [.inr _, .inr _]) zd_H_reachedMinute_3 zm_H_canGo ⟨Nat.le_of_ble_eq_true rfl, Nat.le_of_ble_eq_true rfl⟩ zw_505 zw_507 zs_10 (by decide) rfl rfl (Nat.le_of_ble_eq_true rfl) ⟨Nat.le_of_ble_eq_true rfl, Nat.le_of_ble_eq_true rfl⟩ rfl rfl (c_H_canGo E _ _ _ _) (fun v2 μ1 => ?_)
  refine J_if_ne (tgt := 12) zd_H_reachedMinute_6 rfl ?_ ?_
  · refine J_aload_n zd_H_reachedMinute_12 rfl ?_
    refine J_aload_n zd_H_reachedMinute_13 rfl ?_
    refine J_callVi (ci := 9) (as := [.inr _]) zd_H_reachedMinute_14 zm_H_launchMinute ⟨Nat.le_of_ble_eq_true rfl, Nat.le_of_ble_eq_true rfl⟩ zw_519 zw_521 zs_12 (by decide) rfl rfl (Nat.le_of_ble_eq_true rfl) ⟨Nat.le_of_ble_eq_true rfl, Nat.le_of_ble_eq_true rfl⟩ rfl rfl (c_H_launchMinute E _ _ _) (fun v4 μ3 => ?_)
    refine J_istore_n (lv' := [some _, some _, some _, some _]) zd_H_reachedMinute_17 (Nat.le_of_ble_eq_true rfl) rfl ?_
    refine J_iload_n zd_H_reachedMinute_18 rfl ?_
    refine J_bipush (v := (-9)) zd_H_reachedMinute_19 (by decide) ?_
    refine J_icmp_ne (tgt := 27) zd_H_reachedMinute_21 rfl ?_ ?_
    · refine J_iload_n zd_H_reachedMinute_27 rfl ?_
      refine J_aload_n zd_H_reachedMinute_28 rfl ?_
      refine J_aload_n zd_H_reachedMinute_29 rfl ?_
      refine J_aload_n zd_H_reachedMinute_30 rfl ?_
      refine J_callVi (ci := 9) (as := [.inr _, .inr _]) zd_H_reachedMinute_31 zm_H_wayOf ⟨Nat.le_of_ble_eq_true rfl, Nat.le_of_ble_eq_true rfl⟩ zw_509 zw_511 zs_11 (by decide) rfl rfl (Nat.le_of_ble_eq_true rfl) ⟨Nat.le_of_ble_eq_true rfl, Nat.le_of_ble_eq_true rfl⟩ rfl rfl (c_H_wayOf E _ _ _ _) (fun v6 μ5 => ?_)
      refine J_bipush (v := 60) zd_H_reachedMinute_34 (by decide) ?_
      refine J_imul zd_H_reachedMinute_36 ?_
      refine J_aload_n zd_H_reachedMinute_37 rfl ?_
      refine J_gR zd_H_reachedMinute_38 zf_H_173 rfl (fun r7 => ?_)
      refine J_aload_n zd_H_reachedMinute_41 rfl ?_
      refine J_gI zd_H_reachedMinute_42 zf_H_212 rfl (fun v8 => ?_)
      refine J_aI zd_H_reachedMinute_45 (fun v9 => ?_)
      refine J_callSi (as := [.inl _, .inl _]) zd_H_reachedMinute_46 zm_H_cutUp ⟨Nat.le_of_ble_eq_true rfl, Nat.le_of_ble_eq_true rfl⟩ zw_516 zw_517 rfl (Nat.le_of_ble_eq_true rfl) ⟨Nat.le_of_ble_eq_true rfl, Nat.le_of_ble_eq_true rfl⟩ rfl rfl (c_H_cutUp E _ _ _) (fun v11 μ10 => ?_)
      refine J_iadd zd_H_reachedMinute_49 ?_
      exact J_iret zd_H_reachedMinute_50 rfl (Nat.le_of_ble_eq_true rfl) (Nat.le_of_ble_eq_true rfl)
    · refine J_bipush (v := (-9)) zd_H_reachedMinute_24 (by decide) ?_
      exact J_iret zd_H_reachedMinute_26 rfl (Nat.le_of_ble_eq_true rfl) (Nat.le_of_ble_eq_true rfl)
  · refine J_bipush (v := (-9)) zd_H_reachedMinute_9 (by decide) ?_
    exact J_iret zd_H_reachedMinute_11 rfl (Nat.le_of_ble_eq_true rfl) (Nat.le_of_ble_eq_true rfl)
def b_H_reach_24  (a0 : Nat)  (μ : Mem) : Option (LV × Mem) := cV 9 a0 μ (bI (f_H_refuse a0 (-1) μ) (fun v2 μ1 => (some (.inl v2, μ1))))
set_option maxRecDepth 20000 in
theorem j_H_reach_24 (E : EV) (a0 : Nat)  (μ : Mem)  : J E I_H_reach (rmk 6 0 0) (QR E I_H_reach (rmk 6 0 0)) 0 0 μ 24 [some (.inr a0), none, none, none, none, none] [] (b_H_reach_24 a0 μ) := by
  unfold b_H_reach_24
  refine J_aload_n zd_H_reach_24 rfl ?_
  refine J_iconst (v := (-1)) zd_H_reach_25 (by decide) ?_
  refine J_callVi (ci := 9) (as := [.inl _]) zd_H_reach_26 zm_H_refuse ⟨Nat.le_of_ble_eq_true rfl, Nat.le_of_ble_eq_true rfl⟩ zw_214 zw_216 zs_0 (by decide) rfl rfl (Nat.le_of_ble_eq_true rfl) ⟨Nat.le_of_ble_eq_true rfl, Nat.le_of_ble_eq_true rfl⟩ rfl rfl (c_H_refuse E _ _ _) (fun v2 μ1 => ?_)
  exact J_iret zd_H_reach_29 rfl (Nat.le_of_ble_eq_true rfl) (Nat.le_of_ble_eq_true rfl)
def b_H_reach_39  (a0 : Nat)  (μ : Mem) : Option (LV × Mem) := cV 9 a0 μ (bI (f_H_refuse a0 (-2) μ) (fun v4 μ3 => (some (.inl v4, μ3))))
set_option maxRecDepth 20000 in
theorem j_H_reach_39 (E : EV) (a0 : Nat)  (μ : Mem)  : J E I_H_reach (rmk 6 0 0) (QR E I_H_reach (rmk 6 0 0)) 0 0 μ 39 [some (.inr a0), none, none, none, none, none] [] (b_H_reach_39 a0 μ) := by
  unfold b_H_reach_39
  refine J_aload_n zd_H_reach_39 rfl ?_
  refine J_bipush (v := (-2)) zd_H_reach_40 (by decide) ?_
  refine J_callVi (ci := 9) (as := [.inl _]) zd_H_reach_42 zm_H_refuse ⟨Nat.le_of_ble_eq_true rfl, Nat.le_of_ble_eq_true rfl⟩ zw_214 zw_216 zs_0 (by decide) rfl rfl (Nat.le_of_ble_eq_true rfl) ⟨Nat.le_of_ble_eq_true rfl, Nat.le_of_ble_eq_true rfl⟩ rfl rfl (c_H_refuse E _ _ _) (fun v4 μ3 => ?_)
  exact J_iret zd_H_reach_45 rfl (Nat.le_of_ble_eq_true rfl) (Nat.le_of_ble_eq_true rfl)
def f_H_reach (a0 : Nat) (a1 : Int32) (a2 : Int32) (a3 : Int32) (μ : Mem) : Option (LV × Mem) := cV 9 a0 μ (bR (f_H_boatAt a0 a1 μ) (fun r6 μ5 => cV 9 a0 μ5 (bR (f_H_callAt a0 a2 μ5) (fun r8 μ7 => (if r6 = 0 then (b_H_reach_24 a0 μ7) else (if r8 = 0 then (b_H_reach_24 a0 μ7) else (if a3 < 0 then (b_H_reach_39 a0 μ7) else (if a3 ≤ 2 then (if a3 = 2 then cV 9 a0 μ7 (bI (f_H_canGo a0 r6 r8 μ7) (fun v16 μ15 => (if v16 = 0 then (some (.inl 0, μ15)) else (some (.inl 1, μ15))))) else cV 9 a0 μ7 (bI (f_H_canGo a0 r6 r8 μ7) (fun v10 μ9 => (if v10 = 0 then (some (.inl (-9), μ9)) else (if a3 = 0 then cV 9 a0 μ9 (bI (f_H_launchMinute a0 r6 μ9) (fun v14 μ13 => (some (.inl v14, μ13)))) else cV 9 a0 μ9 (bI (f_H_reachedMinute a0 r6 r8 μ9) (fun v12 μ11 => (some (.inl v12, μ11))))))))) else (b_H_reach_39 a0 μ7)))))))))
set_option maxRecDepth 20000 in
theorem c_H_reach (E : EV) (a0 : Nat) (a1 : Int32) (a2 : Int32) (a3 : Int32) (μ : Mem) : Ct E I_H_reach (rmk 6 0 0) [.inr a0, .inl a1, .inl a2, .inl a3] μ (f_H_reach a0 a1 a2 a3 μ) := by
  refine Ct.of (k := 2) (by decide +kernel) rfl ?_
  show J E I_H_reach (rmk 6 0 0) (QR E I_H_reach (rmk 6 0 0)) 0 0 μ 0 [some (.inr a0), some (.inl a1), some (.inl a2), some (.inl a3), none, none] [] (f_H_reach a0 a1 a2 a3 μ)
  unfold f_H_reach
  refine J_aload_n zd_H_reach_0 rfl ?_
  refine J_iload_n zd_H_reach_1 rfl ?_
  refine J_callVr (ci := 9) (as := [.inl _]) zd_H_reach_2 zm_H_boatAt ⟨Nat.le_of_ble_eq_true rfl, Nat.le_of_ble_eq_true rfl⟩ zw_459 zw_461 zs_8 (by decide) rfl rfl (Nat.le_of_ble_eq_true rfl) ⟨Nat.le_of_ble_eq_true rfl, Nat.le_of_ble_eq_true rfl⟩ rfl rfl (c_H_boatAt E _ _ _) (fun r6 μ5 => ?_)
  refine J_astore (lv' := [some _, some _, some _, some _, some _, none]) zd_H_reach_5 (Nat.le_of_ble_eq_true rfl) rfl ?_
  refine J_aload_n zd_H_reach_7 rfl ?_
  refine J_iload_n zd_H_reach_8 rfl ?_
  refine J_callVr (ci := 9) (as := [.inl _]) zd_H_reach_9 zm_H_callAt ⟨Nat.le_of_ble_eq_true rfl, Nat.le_of_ble_eq_true rfl⟩ zw_501 zw_503 zs_9 (by decide) rfl rfl (Nat.le_of_ble_eq_true rfl) ⟨Nat.le_of_ble_eq_true rfl, Nat.le_of_ble_eq_true rfl⟩ rfl rfl (c_H_callAt E _ _ _) (fun r8 μ7 => ?_)
  refine J_astore (lv' := [some _, some _, some _, some _, some _, some _]) zd_H_reach_12 (Nat.le_of_ble_eq_true rfl) rfl ?_
  refine J_aload zd_H_reach_14 rfl ?_
  refine J_ifnull (tgt := 24) zd_H_reach_16 rfl ?_ ?_
  · refine J_wid (k := 0) (n := 0) (Nat.le_of_ble_eq_true rfl) (Nat.le_of_ble_eq_true rfl) ?_
    refine J_keep [true, false, false, false, false, false] rfl ?_
    exact j_H_reach_24 E _ _
  · refine J_aload zd_H_reach_19 rfl ?_
    refine J_ifnonnull (tgt := 30) zd_H_reach_21 rfl ?_ ?_
    · refine J_iload_n zd_H_reach_30 rfl ?_
      refine J_if_lt (tgt := 39) zd_H_reach_31 rfl ?_ ?_
      · refine J_wid (k := 0) (n := 0) (Nat.le_of_ble_eq_true rfl) (Nat.le_of_ble_eq_true rfl) ?_
        refine J_keep [true, false, false, false, false, false] rfl ?_
        exact j_H_reach_39 E _ _
      · refine J_iload_n zd_H_reach_34 rfl ?_
        refine J_iconst (v := 2) zd_H_reach_35 (by decide) ?_
        refine J_icmp_le (tgt := 46) zd_H_reach_36 rfl ?_ ?_
        · refine J_iload_n zd_H_reach_46 rfl ?_
          refine J_iconst (v := 2) zd_H_reach_47 (by decide) ?_
          refine J_icmp_ne (tgt := 68) zd_H_reach_48 rfl ?_ ?_
          · refine J_aload_n zd_H_reach_68 rfl ?_
            refine J_aload zd_H_reach_69 rfl ?_
            refine J_aload zd_H_reach_71 rfl ?_
            refine J_callVi (ci := 9) (as := [.inr _, .inr _]) zd_H_reach_73 zm_H_canGo ⟨Nat.le_of_ble_eq_true rfl, Nat.le_of_ble_eq_true rfl⟩ zw_505 zw_507 zs_10 (by decide) rfl rfl (Nat.le_of_ble_eq_true rfl) ⟨Nat.le_of_ble_eq_true rfl, Nat.le_of_ble_eq_true rfl⟩ rfl rfl (c_H_canGo E _ _ _ _) (fun v10 μ9 => ?_)
            refine J_if_ne (tgt := 82) zd_H_reach_76 rfl ?_ ?_
            · refine J_iload_n zd_H_reach_82 rfl ?_
              refine J_if_ne (tgt := 95) zd_H_reach_83 rfl ?_ ?_
              · refine J_aload_n zd_H_reach_95 rfl ?_
                refine J_aload zd_H_reach_96 rfl ?_
                refine J_aload zd_H_reach_98 rfl ?_
                refine J_callVi (ci := 9) (as := [.inr _, .inr _]) zd_H_reach_100 zm_H_reachedMinute ⟨Nat.le_of_ble_eq_true rfl, Nat.le_of_ble_eq_true rfl⟩ zw_524 zw_526 zs_13 (by decide) rfl rfl (Nat.le_of_ble_eq_true rfl) ⟨Nat.le_of_ble_eq_true rfl, Nat.le_of_ble_eq_true rfl⟩ rfl rfl (c_H_reachedMinute E _ _ _ _) (fun v12 μ11 => ?_)
                exact J_iret zd_H_reach_103 rfl (Nat.le_of_ble_eq_true rfl) (Nat.le_of_ble_eq_true rfl)
              · refine J_aload_n zd_H_reach_86 rfl ?_
                refine J_aload zd_H_reach_87 rfl ?_
                refine J_callVi (ci := 9) (as := [.inr _]) zd_H_reach_89 zm_H_launchMinute ⟨Nat.le_of_ble_eq_true rfl, Nat.le_of_ble_eq_true rfl⟩ zw_519 zw_521 zs_12 (by decide) rfl rfl (Nat.le_of_ble_eq_true rfl) ⟨Nat.le_of_ble_eq_true rfl, Nat.le_of_ble_eq_true rfl⟩ rfl rfl (c_H_launchMinute E _ _ _) (fun v14 μ13 => ?_)
                refine J_goto (tgt := 103) zd_H_reach_92 rfl ?_
                exact J_iret zd_H_reach_103 rfl (Nat.le_of_ble_eq_true rfl) (Nat.le_of_ble_eq_true rfl)
            · refine J_bipush (v := (-9)) zd_H_reach_79 (by decide) ?_
              exact J_iret zd_H_reach_81 rfl (Nat.le_of_ble_eq_true rfl) (Nat.le_of_ble_eq_true rfl)
          · refine J_aload_n zd_H_reach_51 rfl ?_
            refine J_aload zd_H_reach_52 rfl ?_
            refine J_aload zd_H_reach_54 rfl ?_
            refine J_callVi (ci := 9) (as := [.inr _, .inr _]) zd_H_reach_56 zm_H_canGo ⟨Nat.le_of_ble_eq_true rfl, Nat.le_of_ble_eq_true rfl⟩ zw_505 zw_507 zs_10 (by decide) rfl rfl (Nat.le_of_ble_eq_true rfl) ⟨Nat.le_of_ble_eq_true rfl, Nat.le_of_ble_eq_true rfl⟩ rfl rfl (c_H_canGo E _ _ _ _) (fun v16 μ15 => ?_)
            refine J_if_eq (tgt := 66) zd_H_reach_59 rfl ?_ ?_
            · refine J_iconst (v := 0) zd_H_reach_66 (by decide) ?_
              exact J_iret zd_H_reach_67 rfl (Nat.le_of_ble_eq_true rfl) (Nat.le_of_ble_eq_true rfl)
            · refine J_iconst (v := 1) zd_H_reach_62 (by decide) ?_
              refine J_goto (tgt := 67) zd_H_reach_63 rfl ?_
              exact J_iret zd_H_reach_67 rfl (Nat.le_of_ble_eq_true rfl) (Nat.le_of_ble_eq_true rfl)
        · refine J_wid (k := 0) (n := 0) (Nat.le_of_ble_eq_true rfl) (Nat.le_of_ble_eq_true rfl) ?_
          refine J_keep [true, false, false, false, false, false] rfl ?_
          exact j_H_reach_39 E _ _
    · refine J_wid (k := 0) (n := 0) (Nat.le_of_ble_eq_true rfl) (Nat.le_of_ble_eq_true rfl) ?_
      refine J_keep [true, false, false, false, false, false] rfl ?_
      exact j_H_reach_24 E _ _
def b_H_first_83 (c25 : Int32 → Int32 → Int32 → Mem → Option (LV × Mem)) (a0 : Nat) (a2 : Nat) (a3 : Int32) (a4 : Int32) (a5 : Int32)  (μ : Mem) : Option (LV × Mem) := (c25 a3 a4 (a5 + 1) μ)
set_option maxRecDepth 20000 in
theorem j_H_first_83 (E : EV) (a0 : Nat) (a2 : Nat) (a3 : Int32) (a4 : Int32) (a5 : Int32)  (μ : Mem) {c25 : Int32 → Int32 → Int32 → Mem → Option (LV × Mem)} (h25 : ∀ (b3 : Int32) (b4 : Int32) (b5 : Int32)  (μ : Mem), J E I_H_first (rmk 6 0 0) (QR E I_H_first (rmk 6 0 0)) 0 0 μ 25 [some (.inr a0), none, some (.inr a2), some (.inl b3), some (.inl b4), some (.inl b5), none] [] (c25 b3 b4 b5 μ)) : J E I_H_first (rmk 6 0 0) (QR E I_H_first (rmk 6 0 0)) 0 0 μ 83 [some (.inr a0), none, some (.inr a2), some (.inl a3), some (.inl a4), some (.inl a5), none] [] (b_H_first_83 c25 a0 a2 a3 a4 a5 μ) := by
  unfold b_H_first_83
  refine J_iinc (v := _ + 1) (lv' := [some _, none, some _, some _, some _, some _, none]) zd_H_first_83 (Nat.le_of_ble_eq_true rfl) rfl (by rfl) rfl ?_
  refine J_goto (tgt := 25) zd_H_first_86 rfl ?_
  refine J_wid (k := 0) (n := 0) (Nat.le_of_ble_eq_true rfl) (Nat.le_of_ble_eq_true rfl) ?_
  refine J_keep [true, false, true, true, true, true, false] rfl ?_
  exact h25 _ _ _ _
def b_H_first_76 (c25 : Int32 → Int32 → Int32 → Mem → Option (LV × Mem)) (a0 : Nat) (a2 : Nat) (a5 : Int32) (a6 : Int32)  (μ : Mem) : Option (LV × Mem) := (b_H_first_83 c25 a0 a2 a5 a6 a5 μ)
set_option maxRecDepth 20000 in
theorem j_H_first_76 (E : EV) (a0 : Nat) (a2 : Nat) (a5 : Int32) (a6 : Int32)  (μ : Mem) {c25 : Int32 → Int32 → Int32 → Mem → Option (LV × Mem)} (h25 : ∀ (b3 : Int32) (b4 : Int32) (b5 : Int32)  (μ : Mem), J E I_H_first (rmk 6 0 0) (QR E I_H_first (rmk 6 0 0)) 0 0 μ 25 [some (.inr a0), none, some (.inr a2), some (.inl b3), some (.inl b4), some (.inl b5), none] [] (c25 b3 b4 b5 μ)) : J E I_H_first (rmk 6 0 0) (QR E I_H_first (rmk 6 0 0)) 0 0 μ 76 [some (.inr a0), none, some (.inr a2), none, none, some (.inl a5), some (.inl a6)] [] (b_H_first_76 c25 a0 a2 a5 a6 μ) := by
  unfold b_H_first_76
  refine J_iload zd_H_first_76 rfl ?_
  refine J_istore_n (lv' := [some _, none, some _, some _, none, some _, some _]) zd_H_first_78 (Nat.le_of_ble_eq_true rfl) rfl ?_
  refine J_iload zd_H_first_79 rfl ?_
  refine J_istore (lv' := [some _, none, some _, some _, some _, some _, some _]) zd_H_first_81 (Nat.le_of_ble_eq_true rfl) rfl ?_
  refine J_wid (k := 0) (n := 0) (Nat.le_of_ble_eq_true rfl) (Nat.le_of_ble_eq_true rfl) ?_
  refine J_keep [true, false, true, true, true, true, false] rfl ?_
  exact j_H_first_83 E _ _ _ _ _ _ h25
def k_H_first_25  (a0 : Nat) (a2 : Nat) : Nat → Int32 → Int32 → Int32 → Mem → Option (LV × Mem)
  | 0, _, _, _, _ => none
  | n + 1, a3, a4, a5, μ => gR 9 a0 3 μ (fun r1 => cV 11 r1 μ (bI (f_AL_size r1 μ) (fun v3 μ2 => (if v3 ≤ a5 then (some (.inl a3, μ2)) else gR 9 a0 3 μ2 (fun r4 => cV 11 r4 μ2 (bR (f_AL_get r4 a5 μ2) (fun r6 μ5 => cC 0 r6 μ5 (cV 9 a0 μ5 (bI (f_H_reachedMinute a0 r6 a2 μ5) (fun v8 μ7 => (if v8 = (-9) then (b_H_first_83 (k_H_first_25 a0 a2 n) a0 a2 a3 a4 a5 μ7) else (if a3 = (-9) then (b_H_first_76 (k_H_first_25 a0 a2 n) a0 a2 a5 v8 μ7) else (if a4 ≤ v8 then (b_H_first_83 (k_H_first_25 a0 a2 n) a0 a2 a3 a4 a5 μ7) else (b_H_first_76 (k_H_first_25 a0 a2 n) a0 a2 a5 v8 μ7))))))))))))))
set_option maxRecDepth 20000 in
theorem j_H_first_25 (E : EV) (a0 : Nat) (a2 : Nat)  : ∀ (n : Nat) (a3 : Int32) (a4 : Int32) (a5 : Int32) (μ : Mem), J E I_H_first (rmk 6 0 0) (QR E I_H_first (rmk 6 0 0)) 0 0 μ 25 [some (.inr a0), none, some (.inr a2), some (.inl a3), some (.inl a4), some (.inl a5), none] [] (k_H_first_25 a0 a2 n a3 a4 a5 μ)
  | 0, _, _, _, _ => J_none
  | n + 1, a3, a4, a5, μ => by
    show J E I_H_first (rmk 6 0 0) (QR E I_H_first (rmk 6 0 0)) 0 0 μ 25 [some (.inr a0), none, some (.inr a2), some (.inl a3), some (.inl a4), some (.inl a5), none] [] (gR 9 a0 3 μ (fun r1 => cV 11 r1 μ (bI (f_AL_size r1 μ) (fun v3 μ2 => (if v3 ≤ a5 then (some (.inl a3, μ2)) else gR 9 a0 3 μ2 (fun r4 => cV 11 r4 μ2 (bR (f_AL_get r4 a5 μ2) (fun r6 μ5 => cC 0 r6 μ5 (cV 9 a0 μ5 (bI (f_H_reachedMinute a0 r6 a2 μ5) (fun v8 μ7 => (if v8 = (-9) then (b_H_first_83 (k_H_first_25 a0 a2 n) a0 a2 a3 a4 a5 μ7) else (if a3 = (-9) then (b_H_first_76 (k_H_first_25 a0 a2 n) a0 a2 a5 v8 μ7) else (if a4 ≤ v8 then (b_H_first_83 (k_H_first_25 a0 a2 n) a0 a2 a3 a4 a5 μ7) else (b_H_first_76 (k_H_first_25 a0 a2 n) a0 a2 a5 v8 μ7)))))))))))))))
    refine J_iload zd_H_first_25 rfl ?_
    refine J_aload_n zd_H_first_27 rfl ?_
    refine J_gR zd_H_first_28 zf_H_23 rfl (fun r1 => ?_)
    refine J_callVi (ci := 11) (as := []) zd_H_first_31 zm_AL_size ⟨Nat.le_of_ble_eq_true rfl, Nat.le_of_ble_eq_true rfl⟩ zw_225 zw_226 zw_227 (by decide) rfl rfl (Nat.le_of_ble_eq_true rfl) ⟨Nat.le_of_ble_eq_true rfl, Nat.le_of_ble_eq_true rfl⟩ rfl rfl (c_AL_size E _ _) (fun v3 μ2 => ?_)
    refine J_icmp_ge (tgt := 89) zd_H_first_34 rfl ?_ ?_
    · refine J_iload_n zd_H_first_89 rfl ?_
      exact J_iret zd_H_first_90 rfl (Nat.le_of_ble_eq_true rfl) (Nat.le_of_ble_eq_true rfl)
    · refine J_aload_n zd_H_first_37 rfl ?_
      refine J_aload_n zd_H_first_38 rfl ?_
      refine J_gR zd_H_first_39 zf_H_23 rfl (fun r4 => ?_)
      refine J_iload zd_H_first_42 rfl ?_
      refine J_callVr (ci := 11) (as := [.inl _]) zd_H_first_44 zm_AL_get ⟨Nat.le_of_ble_eq_true rfl, Nat.le_of_ble_eq_true rfl⟩ zw_327 zw_328 zw_329 (by decide) rfl rfl (Nat.le_of_ble_eq_true rfl) ⟨Nat.le_of_ble_eq_true rfl, Nat.le_of_ble_eq_true rfl⟩ rfl rfl (c_AL_get E _ _ _) (fun r6 μ5 => ?_)
      refine J_cast (ci := 0) zd_H_first_47 (by decide) rfl zw_432 ?_
      refine J_aload_n zd_H_first_50 rfl ?_
      refine J_callVi (ci := 9) (as := [.inr _, .inr _]) zd_H_first_51 zm_H_reachedMinute ⟨Nat.le_of_ble_eq_true rfl, Nat.le_of_ble_eq_true rfl⟩ zw_524 zw_526 zs_13 (by decide) rfl rfl (Nat.le_of_ble_eq_true rfl) ⟨Nat.le_of_ble_eq_true rfl, Nat.le_of_ble_eq_true rfl⟩ rfl rfl (c_H_reachedMinute E _ _ _ _) (fun v8 μ7 => ?_)
      refine J_istore (lv' := [some _, none, some _, some _, some _, some _, some _]) zd_H_first_54 (Nat.le_of_ble_eq_true rfl) rfl ?_
      refine J_iload zd_H_first_56 rfl ?_
      refine J_bipush (v := (-9)) zd_H_first_58 (by decide) ?_
      refine J_icmp_eq (tgt := 83) zd_H_first_60 rfl ?_ ?_
      · refine J_wid (k := 0) (n := 0) (Nat.le_of_ble_eq_true rfl) (Nat.le_of_ble_eq_true rfl) ?_
        refine J_keep [true, false, true, true, true, true, false] rfl ?_
        exact j_H_first_83 E _ _ _ _ _ _ (j_H_first_25 E a0 a2 n)
      · refine J_iload_n zd_H_first_63 rfl ?_
        refine J_bipush (v := (-9)) zd_H_first_64 (by decide) ?_
        refine J_icmp_eq (tgt := 76) zd_H_first_66 rfl ?_ ?_
        · refine J_wid (k := 0) (n := 0) (Nat.le_of_ble_eq_true rfl) (Nat.le_of_ble_eq_true rfl) ?_
          refine J_keep [true, false, true, false, false, true, true] rfl ?_
          exact j_H_first_76 E _ _ _ _ _ (j_H_first_25 E a0 a2 n)
        · refine J_iload zd_H_first_69 rfl ?_
          refine J_iload zd_H_first_71 rfl ?_
          refine J_icmp_ge (tgt := 83) zd_H_first_73 rfl ?_ ?_
          · refine J_wid (k := 0) (n := 0) (Nat.le_of_ble_eq_true rfl) (Nat.le_of_ble_eq_true rfl) ?_
            refine J_keep [true, false, true, true, true, true, false] rfl ?_
            exact j_H_first_83 E _ _ _ _ _ _ (j_H_first_25 E a0 a2 n)
          · refine J_wid (k := 0) (n := 0) (Nat.le_of_ble_eq_true rfl) (Nat.le_of_ble_eq_true rfl) ?_
            refine J_keep [true, false, true, false, false, true, true] rfl ?_
            exact j_H_first_76 E _ _ _ _ _ (j_H_first_25 E a0 a2 n)
def f_H_first (a0 : Nat) (a1 : Int32) (μ : Mem) : Option (LV × Mem) := cV 9 a0 μ (bR (f_H_callAt a0 a1 μ) (fun r10 μ9 => (if r10 = 0 then cV 9 a0 μ9 (bI (f_H_refuse a0 (-1) μ9) (fun v12 μ11 => (some (.inl v12, μ11)))) else (k_H_first_25 a0 r10 120000 (-9) 0 0 μ9))))
set_option maxRecDepth 20000 in
theorem c_H_first (E : EV) (a0 : Nat) (a1 : Int32) (μ : Mem) : Ct E I_H_first (rmk 6 0 0) [.inr a0, .inl a1] μ (f_H_first a0 a1 μ) := by
  refine Ct.of (k := 5) (by decide +kernel) rfl ?_
  show J E I_H_first (rmk 6 0 0) (QR E I_H_first (rmk 6 0 0)) 0 0 μ 0 [some (.inr a0), some (.inl a1), none, none, none, none, none] [] (f_H_first a0 a1 μ)
  unfold f_H_first
  refine J_aload_n zd_H_first_0 rfl ?_
  refine J_iload_n zd_H_first_1 rfl ?_
  refine J_callVr (ci := 9) (as := [.inl _]) zd_H_first_2 zm_H_callAt ⟨Nat.le_of_ble_eq_true rfl, Nat.le_of_ble_eq_true rfl⟩ zw_501 zw_503 zs_9 (by decide) rfl rfl (Nat.le_of_ble_eq_true rfl) ⟨Nat.le_of_ble_eq_true rfl, Nat.le_of_ble_eq_true rfl⟩ rfl rfl (c_H_callAt E _ _ _) (fun r10 μ9 => ?_)
  refine J_astore_n (lv' := [some _, some _, some _, none, none, none, none]) zd_H_first_5 (Nat.le_of_ble_eq_true rfl) rfl ?_
  refine J_aload_n zd_H_first_6 rfl ?_
  refine J_ifnonnull (tgt := 16) zd_H_first_7 rfl ?_ ?_
  · refine J_bipush (v := (-9)) zd_H_first_16 (by decide) ?_
    refine J_istore_n (lv' := [some _, some _, some _, some _, none, none, none]) zd_H_first_18 (Nat.le_of_ble_eq_true rfl) rfl ?_
    refine J_iconst (v := 0) zd_H_first_19 (by decide) ?_
    refine J_istore (lv' := [some _, some _, some _, some _, some _, none, none]) zd_H_first_20 (Nat.le_of_ble_eq_true rfl) rfl ?_
    refine J_iconst (v := 0) zd_H_first_22 (by decide) ?_
    refine J_istore (lv' := [some _, some _, some _, some _, some _, some _, none]) zd_H_first_23 (Nat.le_of_ble_eq_true rfl) rfl ?_
    refine J_wid (k := 0) (n := 0) (Nat.le_of_ble_eq_true rfl) (Nat.le_of_ble_eq_true rfl) ?_
    refine J_keep [true, false, true, true, true, true, false] rfl ?_
    exact j_H_first_25 E _ _ _ _ _ _ _
  · refine J_aload_n zd_H_first_10 rfl ?_
    refine J_iconst (v := (-1)) zd_H_first_11 (by decide) ?_
    refine J_callVi (ci := 9) (as := [.inl _]) zd_H_first_12 zm_H_refuse ⟨Nat.le_of_ble_eq_true rfl, Nat.le_of_ble_eq_true rfl⟩ zw_214 zw_216 zs_0 (by decide) rfl rfl (Nat.le_of_ble_eq_true rfl) ⟨Nat.le_of_ble_eq_true rfl, Nat.le_of_ble_eq_true rfl⟩ rfl rfl (c_H_refuse E _ _ _) (fun v12 μ11 => ?_)
    exact J_iret zd_H_first_15 rfl (Nat.le_of_ble_eq_true rfl) (Nat.le_of_ble_eq_true rfl)
def b_H_pairBoats_112 (c51 : Int32 → Mem → Option (LV × Mem)) (a0 : Nat) (a1 : Nat) (a2 : Nat) (a3 : Int32) (a4 : Int32) (a5 : Int32)  (μ : Mem) : Option (LV × Mem) := (c51 (a5 + 1) μ)
set_option maxRecDepth 20000 in
theorem j_H_pairBoats_112 (E : EV) (a0 : Nat) (a1 : Nat) (a2 : Nat) (a3 : Int32) (a4 : Int32) (a5 : Int32)  (μ : Mem) {c51 : Int32 → Mem → Option (LV × Mem)} (h51 : ∀ (b5 : Int32)  (μ : Mem), J E I_H_pairBoats (rmk 6 0 0) (QR E I_H_pairBoats (rmk 6 0 0)) 0 0 μ 51 [some (.inr a0), some (.inr a1), some (.inr a2), some (.inl a3), some (.inl a4), some (.inl b5), none] [] (c51 b5 μ)) : J E I_H_pairBoats (rmk 6 0 0) (QR E I_H_pairBoats (rmk 6 0 0)) 0 0 μ 112 [some (.inr a0), some (.inr a1), some (.inr a2), some (.inl a3), some (.inl a4), some (.inl a5), none] [] (b_H_pairBoats_112 c51 a0 a1 a2 a3 a4 a5 μ) := by
  unfold b_H_pairBoats_112
  refine J_iinc (v := _ + 1) (lv' := [some _, some _, some _, some _, some _, some _, none]) zd_H_pairBoats_112 (Nat.le_of_ble_eq_true rfl) rfl (by rfl) rfl ?_
  refine J_goto (tgt := 51) zd_H_pairBoats_115 rfl ?_
  refine J_wid (k := 0) (n := 0) (Nat.le_of_ble_eq_true rfl) (Nat.le_of_ble_eq_true rfl) ?_
  refine J_keep [true, true, true, true, true, true, false] rfl ?_
  exact h51 _ _
def k_H_pairBoats_51 (c118 : Int32 → Mem → Option (LV × Mem)) (a0 : Nat) (a1 : Nat) (a2 : Nat) (a3 : Int32) (a4 : Int32) : Nat → Int32 → Mem → Option (LV × Mem)
  | 0, _, _ => none
  | n + 1, a5, μ => gR 9 a0 3 μ (fun r1 => cV 11 r1 μ (bI (f_AL_size r1 μ) (fun v3 μ2 => (if v3 ≤ a5 then (c118 a3 μ2) else (if a5 = a3 then (b_H_pairBoats_112 (k_H_pairBoats_51 c118 a0 a1 a2 a3 a4 n) a0 a1 a2 a3 a4 a5 μ2) else gR 9 a0 3 μ2 (fun r4 => cV 11 r4 μ2 (bR (f_AL_get r4 a5 μ2) (fun r6 μ5 => cC 0 r6 μ5 (cV 9 a0 μ5 (bI (f_H_reachedMinute a0 r6 a2 μ5) (fun v8 μ7 => (if v8 = (-9) then (b_H_pairBoats_112 (k_H_pairBoats_51 c118 a0 a1 a2 a3 a4 n) a0 a1 a2 a3 a4 a5 μ7) else gR 9 a0 8 μ7 (fun r9 => cV 5 r9 μ7 (bV (f_P_offer r9 a3 a4 a5 v8 μ7) (fun μ10 => (b_H_pairBoats_112 (k_H_pairBoats_51 c118 a0 a1 a2 a3 a4 n) a0 a1 a2 a3 a4 a5 μ10))))))))))))))))
set_option maxRecDepth 20000 in
theorem j_H_pairBoats_51 (E : EV) (a0 : Nat) (a1 : Nat) (a2 : Nat) (a3 : Int32) (a4 : Int32) {c118 : Int32 → Mem → Option (LV × Mem)} (h118 : ∀ (b3 : Int32)  (μ : Mem), J E I_H_pairBoats (rmk 6 0 0) (QR E I_H_pairBoats (rmk 6 0 0)) 0 0 μ 118 [some (.inr a0), some (.inr a1), some (.inr a2), some (.inl b3), none, none, none] [] (c118 b3 μ)) : ∀ (n : Nat) (a5 : Int32) (μ : Mem), J E I_H_pairBoats (rmk 6 0 0) (QR E I_H_pairBoats (rmk 6 0 0)) 0 0 μ 51 [some (.inr a0), some (.inr a1), some (.inr a2), some (.inl a3), some (.inl a4), some (.inl a5), none] [] (k_H_pairBoats_51 c118 a0 a1 a2 a3 a4 n a5 μ)
  | 0, _, _ => J_none
  | n + 1, a5, μ => by
    show J E I_H_pairBoats (rmk 6 0 0) (QR E I_H_pairBoats (rmk 6 0 0)) 0 0 μ 51 [some (.inr a0), some (.inr a1), some (.inr a2), some (.inl a3), some (.inl a4), some (.inl a5), none] [] (gR 9 a0 3 μ (fun r1 => cV 11 r1 μ (bI (f_AL_size r1 μ) (fun v3 μ2 => (if v3 ≤ a5 then (c118 a3 μ2) else (if a5 = a3 then (b_H_pairBoats_112 (k_H_pairBoats_51 c118 a0 a1 a2 a3 a4 n) a0 a1 a2 a3 a4 a5 μ2) else gR 9 a0 3 μ2 (fun r4 => cV 11 r4 μ2 (bR (f_AL_get r4 a5 μ2) (fun r6 μ5 => cC 0 r6 μ5 (cV 9 a0 μ5 (bI (f_H_reachedMinute a0 r6 a2 μ5) (fun v8 μ7 => (if v8 = (-9) then (b_H_pairBoats_112 (k_H_pairBoats_51 c118 a0 a1 a2 a3 a4 n) a0 a1 a2 a3 a4 a5 μ7) else gR 9 a0 8 μ7 (fun r9 => cV 5 r9 μ7 (bV (f_P_offer r9 a3 a4 a5 v8 μ7) (fun μ10 => (b_H_pairBoats_112 (k_H_pairBoats_51 c118 a0 a1 a2 a3 a4 n) a0 a1 a2 a3 a4 a5 μ10)))))))))))))))))
    refine J_iload zd_H_pairBoats_51 rfl ?_
    refine J_aload_n zd_H_pairBoats_53 rfl ?_
    refine J_gR zd_H_pairBoats_54 zf_H_23 rfl (fun r1 => ?_)
    refine J_callVi (ci := 11) (as := []) zd_H_pairBoats_57 zm_AL_size ⟨Nat.le_of_ble_eq_true rfl, Nat.le_of_ble_eq_true rfl⟩ zw_225 zw_226 zw_227 (by decide) rfl rfl (Nat.le_of_ble_eq_true rfl) ⟨Nat.le_of_ble_eq_true rfl, Nat.le_of_ble_eq_true rfl⟩ rfl rfl (c_AL_size E _ _) (fun v3 μ2 => ?_)
    refine J_icmp_ge (tgt := 118) zd_H_pairBoats_60 rfl ?_ ?_
    · refine J_wid (k := 0) (n := 0) (Nat.le_of_ble_eq_true rfl) (Nat.le_of_ble_eq_true rfl) ?_
      refine J_keep [true, true, true, true, false, false, false] rfl ?_
      exact h118 _ _
    · refine J_iload zd_H_pairBoats_63 rfl ?_
      refine J_iload_n zd_H_pairBoats_65 rfl ?_
      refine J_icmp_ne (tgt := 72) zd_H_pairBoats_66 rfl ?_ ?_
      · refine J_aload_n zd_H_pairBoats_72 rfl ?_
        refine J_aload_n zd_H_pairBoats_73 rfl ?_
        refine J_gR zd_H_pairBoats_74 zf_H_23 rfl (fun r4 => ?_)
        refine J_iload zd_H_pairBoats_77 rfl ?_
        refine J_callVr (ci := 11) (as := [.inl _]) zd_H_pairBoats_79 zm_AL_get ⟨Nat.le_of_ble_eq_true rfl, Nat.le_of_ble_eq_true rfl⟩ zw_327 zw_328 zw_329 (by decide) rfl rfl (Nat.le_of_ble_eq_true rfl) ⟨Nat.le_of_ble_eq_true rfl, Nat.le_of_ble_eq_true rfl⟩ rfl rfl (c_AL_get E _ _ _) (fun r6 μ5 => ?_)
        refine J_cast (ci := 0) zd_H_pairBoats_82 (by decide) rfl zw_432 ?_
        refine J_aload_n zd_H_pairBoats_85 rfl ?_
        refine J_callVi (ci := 9) (as := [.inr _, .inr _]) zd_H_pairBoats_86 zm_H_reachedMinute ⟨Nat.le_of_ble_eq_true rfl, Nat.le_of_ble_eq_true rfl⟩ zw_524 zw_526 zs_13 (by decide) rfl rfl (Nat.le_of_ble_eq_true rfl) ⟨Nat.le_of_ble_eq_true rfl, Nat.le_of_ble_eq_true rfl⟩ rfl rfl (c_H_reachedMinute E _ _ _ _) (fun v8 μ7 => ?_)
        refine J_istore (lv' := [some _, some _, some _, some _, some _, some _, some _]) zd_H_pairBoats_89 (Nat.le_of_ble_eq_true rfl) rfl ?_
        refine J_iload zd_H_pairBoats_91 rfl ?_
        refine J_bipush (v := (-9)) zd_H_pairBoats_93 (by decide) ?_
        refine J_icmp_eq (tgt := 112) zd_H_pairBoats_95 rfl ?_ ?_
        · refine J_wid (k := 0) (n := 0) (Nat.le_of_ble_eq_true rfl) (Nat.le_of_ble_eq_true rfl) ?_
          refine J_keep [true, true, true, true, true, true, false] rfl ?_
          exact j_H_pairBoats_112 E _ _ _ _ _ _ _ (j_H_pairBoats_51 E a0 a1 a2 a3 a4 h118 n)
        · refine J_aload_n zd_H_pairBoats_98 rfl ?_
          refine J_gR zd_H_pairBoats_99 zf_H_49 rfl (fun r9 => ?_)
          refine J_iload_n zd_H_pairBoats_102 rfl ?_
          refine J_iload zd_H_pairBoats_103 rfl ?_
          refine J_iload zd_H_pairBoats_105 rfl ?_
          refine J_iload zd_H_pairBoats_107 rfl ?_
          refine J_callVv (ci := 5) (as := [.inl _, .inl _, .inl _, .inl _]) zd_H_pairBoats_109 zm_P_offer ⟨Nat.le_of_ble_eq_true rfl, Nat.le_of_ble_eq_true rfl⟩ zw_544 zw_545 zw_546 (by decide) rfl rfl (Nat.le_of_ble_eq_true rfl) ⟨Nat.le_of_ble_eq_true rfl, Nat.le_of_ble_eq_true rfl⟩ rfl rfl (c_P_offer E _ _ _ _ _ _) (fun μ10 => ?_)
          refine J_wid (k := 0) (n := 0) (Nat.le_of_ble_eq_true rfl) (Nat.le_of_ble_eq_true rfl) ?_
          refine J_keep [true, true, true, true, true, true, false] rfl ?_
          exact j_H_pairBoats_112 E _ _ _ _ _ _ _ (j_H_pairBoats_51 E a0 a1 a2 a3 a4 h118 n)
      · refine J_goto (tgt := 112) zd_H_pairBoats_69 rfl ?_
        refine J_wid (k := 0) (n := 0) (Nat.le_of_ble_eq_true rfl) (Nat.le_of_ble_eq_true rfl) ?_
        refine J_keep [true, true, true, true, true, true, false] rfl ?_
        exact j_H_pairBoats_112 E _ _ _ _ _ _ _ (j_H_pairBoats_51 E a0 a1 a2 a3 a4 h118 n)
def b_H_pairBoats_118 (c9 : Int32 → Mem → Option (LV × Mem)) (a0 : Nat) (a1 : Nat) (a2 : Nat) (a3 : Int32)  (μ : Mem) : Option (LV × Mem) := (c9 (a3 + 1) μ)
set_option maxRecDepth 20000 in
theorem j_H_pairBoats_118 (E : EV) (a0 : Nat) (a1 : Nat) (a2 : Nat) (a3 : Int32)  (μ : Mem) {c9 : Int32 → Mem → Option (LV × Mem)} (h9 : ∀ (b3 : Int32)  (μ : Mem), J E I_H_pairBoats (rmk 6 0 0) (QR E I_H_pairBoats (rmk 6 0 0)) 0 0 μ 9 [some (.inr a0), some (.inr a1), some (.inr a2), some (.inl b3), none, none, none] [] (c9 b3 μ)) : J E I_H_pairBoats (rmk 6 0 0) (QR E I_H_pairBoats (rmk 6 0 0)) 0 0 μ 118 [some (.inr a0), some (.inr a1), some (.inr a2), some (.inl a3), none, none, none] [] (b_H_pairBoats_118 c9 a0 a1 a2 a3 μ) := by
  unfold b_H_pairBoats_118
  refine J_iinc (v := _ + 1) (lv' := [some _, some _, some _, some _, none, none, none]) zd_H_pairBoats_118 (Nat.le_of_ble_eq_true rfl) rfl (by rfl) rfl ?_
  refine J_goto (tgt := 9) zd_H_pairBoats_121 rfl ?_
  refine J_wid (k := 0) (n := 0) (Nat.le_of_ble_eq_true rfl) (Nat.le_of_ble_eq_true rfl) ?_
  refine J_keep [true, true, true, true, false, false, false] rfl ?_
  exact h9 _ _
def k_H_pairBoats_9  (a0 : Nat) (a1 : Nat) (a2 : Nat) : Nat → Int32 → Mem → Option (LV × Mem)
  | 0, _, _ => none
  | n + 1, a3, μ => gR 9 a0 3 μ (fun r11 => cV 11 r11 μ (bI (f_AL_size r11 μ) (fun v13 μ12 => (if v13 ≤ a3 then (some (.inl 0, μ12)) else gR 9 a0 3 μ12 (fun r14 => cV 11 r14 μ12 (bR (f_AL_get r14 a3 μ12) (fun r16 μ15 => cC 0 r16 μ15 (cV 9 a0 μ15 (bI (f_H_reachedMinute a0 r16 a1 μ15) (fun v18 μ17 => (if v18 = (-9) then (b_H_pairBoats_118 (k_H_pairBoats_9 a0 a1 a2 n) a0 a1 a2 a3 μ17) else (k_H_pairBoats_51 (fun b3 m_ => b_H_pairBoats_118 (k_H_pairBoats_9 a0 a1 a2 n) a0 a1 a2 b3 m_) a0 a1 a2 a3 v18 120000 0 μ17))))))))))))
set_option maxRecDepth 20000 in
theorem j_H_pairBoats_9 (E : EV) (a0 : Nat) (a1 : Nat) (a2 : Nat)  : ∀ (n : Nat) (a3 : Int32) (μ : Mem), J E I_H_pairBoats (rmk 6 0 0) (QR E I_H_pairBoats (rmk 6 0 0)) 0 0 μ 9 [some (.inr a0), some (.inr a1), some (.inr a2), some (.inl a3), none, none, none] [] (k_H_pairBoats_9 a0 a1 a2 n a3 μ)
  | 0, _, _ => J_none
  | n + 1, a3, μ => by
    show J E I_H_pairBoats (rmk 6 0 0) (QR E I_H_pairBoats (rmk 6 0 0)) 0 0 μ 9 [some (.inr a0), some (.inr a1), some (.inr a2), some (.inl a3), none, none, none] [] (gR 9 a0 3 μ (fun r11 => cV 11 r11 μ (bI (f_AL_size r11 μ) (fun v13 μ12 => (if v13 ≤ a3 then (some (.inl 0, μ12)) else gR 9 a0 3 μ12 (fun r14 => cV 11 r14 μ12 (bR (f_AL_get r14 a3 μ12) (fun r16 μ15 => cC 0 r16 μ15 (cV 9 a0 μ15 (bI (f_H_reachedMinute a0 r16 a1 μ15) (fun v18 μ17 => (if v18 = (-9) then (b_H_pairBoats_118 (k_H_pairBoats_9 a0 a1 a2 n) a0 a1 a2 a3 μ17) else (k_H_pairBoats_51 (fun b3 m_ => b_H_pairBoats_118 (k_H_pairBoats_9 a0 a1 a2 n) a0 a1 a2 b3 m_) a0 a1 a2 a3 v18 120000 0 μ17)))))))))))))
    refine J_iload_n zd_H_pairBoats_9 rfl ?_
    refine J_aload_n zd_H_pairBoats_10 rfl ?_
    refine J_gR zd_H_pairBoats_11 zf_H_23 rfl (fun r11 => ?_)
    refine J_callVi (ci := 11) (as := []) zd_H_pairBoats_14 zm_AL_size ⟨Nat.le_of_ble_eq_true rfl, Nat.le_of_ble_eq_true rfl⟩ zw_225 zw_226 zw_227 (by decide) rfl rfl (Nat.le_of_ble_eq_true rfl) ⟨Nat.le_of_ble_eq_true rfl, Nat.le_of_ble_eq_true rfl⟩ rfl rfl (c_AL_size E _ _) (fun v13 μ12 => ?_)
    refine J_icmp_ge (tgt := 124) zd_H_pairBoats_17 rfl ?_ ?_
    · exact J_vret zd_H_pairBoats_124 rfl (Nat.le_of_ble_eq_true rfl) (Nat.le_of_ble_eq_true rfl)
    · refine J_aload_n zd_H_pairBoats_20 rfl ?_
      refine J_aload_n zd_H_pairBoats_21 rfl ?_
      refine J_gR zd_H_pairBoats_22 zf_H_23 rfl (fun r14 => ?_)
      refine J_iload_n zd_H_pairBoats_25 rfl ?_
      refine J_callVr (ci := 11) (as := [.inl _]) zd_H_pairBoats_26 zm_AL_get ⟨Nat.le_of_ble_eq_true rfl, Nat.le_of_ble_eq_true rfl⟩ zw_327 zw_328 zw_329 (by decide) rfl rfl (Nat.le_of_ble_eq_true rfl) ⟨Nat.le_of_ble_eq_true rfl, Nat.le_of_ble_eq_true rfl⟩ rfl rfl (c_AL_get E _ _ _) (fun r16 μ15 => ?_)
      refine J_cast (ci := 0) zd_H_pairBoats_29 (by decide) rfl zw_432 ?_
      refine J_aload_n zd_H_pairBoats_32 rfl ?_
      refine J_callVi (ci := 9) (as := [.inr _, .inr _]) zd_H_pairBoats_33 zm_H_reachedMinute ⟨Nat.le_of_ble_eq_true rfl, Nat.le_of_ble_eq_true rfl⟩ zw_524 zw_526 zs_13 (by decide) rfl rfl (Nat.le_of_ble_eq_true rfl) ⟨Nat.le_of_ble_eq_true rfl, Nat.le_of_ble_eq_true rfl⟩ rfl rfl (c_H_reachedMinute E _ _ _ _) (fun v18 μ17 => ?_)
      refine J_istore (lv' := [some _, some _, some _, some _, some _, none, none]) zd_H_pairBoats_36 (Nat.le_of_ble_eq_true rfl) rfl ?_
      refine J_iload zd_H_pairBoats_38 rfl ?_
      refine J_bipush (v := (-9)) zd_H_pairBoats_40 (by decide) ?_
      refine J_icmp_ne (tgt := 48) zd_H_pairBoats_42 rfl ?_ ?_
      · refine J_iconst (v := 0) zd_H_pairBoats_48 (by decide) ?_
        refine J_istore (lv' := [some _, some _, some _, some _, some _, some _, none]) zd_H_pairBoats_49 (Nat.le_of_ble_eq_true rfl) rfl ?_
        refine J_wid (k := 0) (n := 0) (Nat.le_of_ble_eq_true rfl) (Nat.le_of_ble_eq_true rfl) ?_
        refine J_keep [true, true, true, true, true, true, false] rfl ?_
        exact j_H_pairBoats_51 E _ _ _ _ _ (fun b3 m_ => j_H_pairBoats_118 E a0 a1 a2 b3 m_ (j_H_pairBoats_9 E a0 a1 a2 n)) _ _ _
      · refine J_goto (tgt := 118) zd_H_pairBoats_45 rfl ?_
        refine J_wid (k := 0) (n := 0) (Nat.le_of_ble_eq_true rfl) (Nat.le_of_ble_eq_true rfl) ?_
        refine J_keep [true, true, true, true, false, false, false] rfl ?_
        exact j_H_pairBoats_118 E _ _ _ _ _ (j_H_pairBoats_9 E a0 a1 a2 n)
def f_H_pairBoats (a0 : Nat) (a1 : Nat) (a2 : Nat) (μ : Mem) : Option (LV × Mem) := gR 9 a0 8 μ (fun r19 => cV 5 r19 μ (bV (f_P_clear r19 μ) (fun μ20 => (k_H_pairBoats_9 a0 a1 a2 120000 0 μ20))))
set_option maxRecDepth 20000 in
theorem c_H_pairBoats (E : EV) (a0 : Nat) (a1 : Nat) (a2 : Nat) (μ : Mem) : Ct E I_H_pairBoats (rmk 6 0 0) [.inr a0, .inr a1, .inr a2] μ (f_H_pairBoats a0 a1 a2 μ) := by
  refine Ct.of (k := 4) (by decide +kernel) rfl ?_
  show J E I_H_pairBoats (rmk 6 0 0) (QR E I_H_pairBoats (rmk 6 0 0)) 0 0 μ 0 [some (.inr a0), some (.inr a1), some (.inr a2), none, none, none, none] [] (f_H_pairBoats a0 a1 a2 μ)
  unfold f_H_pairBoats
  refine J_aload_n zd_H_pairBoats_0 rfl ?_
  refine J_gR zd_H_pairBoats_1 zf_H_49 rfl (fun r19 => ?_)
  refine J_callVv (ci := 5) (as := []) zd_H_pairBoats_4 zm_P_clear ⟨Nat.le_of_ble_eq_true rfl, Nat.le_of_ble_eq_true rfl⟩ zw_540 zw_541 zw_542 (by decide) rfl rfl (Nat.le_of_ble_eq_true rfl) ⟨Nat.le_of_ble_eq_true rfl, Nat.le_of_ble_eq_true rfl⟩ rfl rfl (c_P_clear E _ _) (fun μ20 => ?_)
  refine J_iconst (v := 0) zd_H_pairBoats_7 (by decide) ?_
  refine J_istore_n (lv' := [some _, some _, some _, some _, none, none, none]) zd_H_pairBoats_8 (Nat.le_of_ble_eq_true rfl) rfl ?_
  refine J_wid (k := 0) (n := 0) (Nat.le_of_ble_eq_true rfl) (Nat.le_of_ble_eq_true rfl) ?_
  refine J_keep [true, true, true, true, false, false, false] rfl ?_
  exact j_H_pairBoats_9 E _ _ _ _ _ _
def b_H_two_29  (a0 : Nat)  (μ : Mem) : Option (LV × Mem) := cV 9 a0 μ (bI (f_H_refuse a0 (-1) μ) (fun v2 μ1 => (some (.inl v2, μ1))))
set_option maxRecDepth 20000 in
theorem j_H_two_29 (E : EV) (a0 : Nat)  (μ : Mem)  : J E I_H_two (rmk 7 0 0) (QR E I_H_two (rmk 7 0 0)) 0 0 μ 29 [some (.inr a0), none, none, none, none, none] [] (b_H_two_29 a0 μ) := by
  unfold b_H_two_29
  refine J_aload_n zd_H_two_29 rfl ?_
  refine J_iconst (v := (-1)) zd_H_two_30 (by decide) ?_
  refine J_callVi (ci := 9) (as := [.inl _]) zd_H_two_31 zm_H_refuse ⟨Nat.le_of_ble_eq_true rfl, Nat.le_of_ble_eq_true rfl⟩ zw_214 zw_216 zs_0 (by decide) rfl rfl (Nat.le_of_ble_eq_true rfl) ⟨Nat.le_of_ble_eq_true rfl, Nat.le_of_ble_eq_true rfl⟩ rfl rfl (c_H_refuse E _ _ _) (fun v2 μ1 => ?_)
  exact J_iret zd_H_two_34 rfl (Nat.le_of_ble_eq_true rfl) (Nat.le_of_ble_eq_true rfl)
def b_H_two_44  (a0 : Nat)  (μ : Mem) : Option (LV × Mem) := cV 9 a0 μ (bI (f_H_refuse a0 (-2) μ) (fun v4 μ3 => (some (.inl v4, μ3))))
set_option maxRecDepth 20000 in
theorem j_H_two_44 (E : EV) (a0 : Nat)  (μ : Mem)  : J E I_H_two (rmk 7 0 0) (QR E I_H_two (rmk 7 0 0)) 0 0 μ 44 [some (.inr a0), none, none, none, none, none] [] (b_H_two_44 a0 μ) := by
  unfold b_H_two_44
  refine J_aload_n zd_H_two_44 rfl ?_
  refine J_bipush (v := (-2)) zd_H_two_45 (by decide) ?_
  refine J_callVi (ci := 9) (as := [.inl _]) zd_H_two_47 zm_H_refuse ⟨Nat.le_of_ble_eq_true rfl, Nat.le_of_ble_eq_true rfl⟩ zw_214 zw_216 zs_0 (by decide) rfl rfl (Nat.le_of_ble_eq_true rfl) ⟨Nat.le_of_ble_eq_true rfl, Nat.le_of_ble_eq_true rfl⟩ rfl rfl (c_H_refuse E _ _ _) (fun v4 μ3 => ?_)
  exact J_iret zd_H_two_50 rfl (Nat.le_of_ble_eq_true rfl) (Nat.le_of_ble_eq_true rfl)
def f_H_two (a0 : Nat) (a1 : Int32) (a2 : Int32) (a3 : Int32) (μ : Mem) : Option (LV × Mem) := cV 9 a0 μ (bR (f_H_callAt a0 a1 μ) (fun r6 μ5 => cV 9 a0 μ5 (bR (f_H_callAt a0 a2 μ5) (fun r8 μ7 => (if r6 = 0 then (b_H_two_29 a0 μ7) else (if r8 = 0 then (b_H_two_29 a0 μ7) else (if a1 = a2 then (b_H_two_29 a0 μ7) else (if a3 < 0 then (b_H_two_44 a0 μ7) else (if a3 ≤ 2 then cV 9 a0 μ7 (bV (f_H_pairBoats a0 r6 r8 μ7) (fun μ9 => (if a3 = 0 then gR 9 a0 8 μ9 (fun r14 => gI 5 r14 0 μ9 (fun v15 => (some (.inl v15, μ9)))) else (if a3 = 1 then gR 9 a0 8 μ9 (fun r12 => gI 5 r12 1 μ9 (fun v13 => (some (.inl v13, μ9)))) else gR 9 a0 8 μ9 (fun r10 => gI 5 r10 2 μ9 (fun v11 => (some (.inl v11, μ9)))))))) else (b_H_two_44 a0 μ7))))))))))
set_option maxRecDepth 20000 in
theorem c_H_two (E : EV) (a0 : Nat) (a1 : Int32) (a2 : Int32) (a3 : Int32) (μ : Mem) : Ct E I_H_two (rmk 7 0 0) [.inr a0, .inl a1, .inl a2, .inl a3] μ (f_H_two a0 a1 a2 a3 μ) := by
  refine Ct.of (k := 2) (by decide +kernel) rfl ?_
  show J E I_H_two (rmk 7 0 0) (QR E I_H_two (rmk 7 0 0)) 0 0 μ 0 [some (.inr a0), some (.inl a1), some (.inl a2), some (.inl a3), none, none] [] (f_H_two a0 a1 a2 a3 μ)
  unfold f_H_two
  refine J_aload_n zd_H_two_0 rfl ?_
  refine J_iload_n zd_H_two_1 rfl ?_
  refine J_callVr (ci := 9) (as := [.inl _]) zd_H_two_2 zm_H_callAt ⟨Nat.le_of_ble_eq_true rfl, Nat.le_of_ble_eq_true rfl⟩ zw_501 zw_503 zs_9 (by decide) rfl rfl (Nat.le_of_ble_eq_true rfl) ⟨Nat.le_of_ble_eq_true rfl, Nat.le_of_ble_eq_true rfl⟩ rfl rfl (c_H_callAt E _ _ _) (fun r6 μ5 => ?_)
  refine J_astore (lv' := [some _, some _, some _, some _, some _, none]) zd_H_two_5 (Nat.le_of_ble_eq_true rfl) rfl ?_
  refine J_aload_n zd_H_two_7 rfl ?_
  refine J_iload_n zd_H_two_8 rfl ?_
  refine J_callVr (ci := 9) (as := [.inl _]) zd_H_two_9 zm_H_callAt ⟨Nat.le_of_ble_eq_true rfl, Nat.le_of_ble_eq_true rfl⟩ zw_501 zw_503 zs_9 (by decide) rfl rfl (Nat.le_of_ble_eq_true rfl) ⟨Nat.le_of_ble_eq_true rfl, Nat.le_of_ble_eq_true rfl⟩ rfl rfl (c_H_callAt E _ _ _) (fun r8 μ7 => ?_)
  refine J_astore (lv' := [some _, some _, some _, some _, some _, some _]) zd_H_two_12 (Nat.le_of_ble_eq_true rfl) rfl ?_
  refine J_aload zd_H_two_14 rfl ?_
  refine J_ifnull (tgt := 29) zd_H_two_16 rfl ?_ ?_
  · refine J_wid (k := 0) (n := 0) (Nat.le_of_ble_eq_true rfl) (Nat.le_of_ble_eq_true rfl) ?_
    refine J_keep [true, false, false, false, false, false] rfl ?_
    exact j_H_two_29 E _ _
  · refine J_aload zd_H_two_19 rfl ?_
    refine J_ifnull (tgt := 29) zd_H_two_21 rfl ?_ ?_
    · refine J_wid (k := 0) (n := 0) (Nat.le_of_ble_eq_true rfl) (Nat.le_of_ble_eq_true rfl) ?_
      refine J_keep [true, false, false, false, false, false] rfl ?_
      exact j_H_two_29 E _ _
    · refine J_iload_n zd_H_two_24 rfl ?_
      refine J_iload_n zd_H_two_25 rfl ?_
      refine J_icmp_ne (tgt := 35) zd_H_two_26 rfl ?_ ?_
      · refine J_iload_n zd_H_two_35 rfl ?_
        refine J_if_lt (tgt := 44) zd_H_two_36 rfl ?_ ?_
        · refine J_wid (k := 0) (n := 0) (Nat.le_of_ble_eq_true rfl) (Nat.le_of_ble_eq_true rfl) ?_
          refine J_keep [true, false, false, false, false, false] rfl ?_
          exact j_H_two_44 E _ _
        · refine J_iload_n zd_H_two_39 rfl ?_
          refine J_iconst (v := 2) zd_H_two_40 (by decide) ?_
          refine J_icmp_le (tgt := 51) zd_H_two_41 rfl ?_ ?_
          · refine J_aload_n zd_H_two_51 rfl ?_
            refine J_aload zd_H_two_52 rfl ?_
            refine J_aload zd_H_two_54 rfl ?_
            refine J_callVv (ci := 9) (as := [.inr _, .inr _]) zd_H_two_56 zm_H_pairBoats ⟨Nat.le_of_ble_eq_true rfl, Nat.le_of_ble_eq_true rfl⟩ zw_536 zw_538 zs_14 (by decide) rfl rfl (Nat.le_of_ble_eq_true rfl) ⟨Nat.le_of_ble_eq_true rfl, Nat.le_of_ble_eq_true rfl⟩ rfl rfl (c_H_pairBoats E _ _ _ _) (fun μ9 => ?_)
            refine J_iload_n zd_H_two_59 rfl ?_
            refine J_if_ne (tgt := 71) zd_H_two_60 rfl ?_ ?_
            · refine J_iload_n zd_H_two_71 rfl ?_
              refine J_iconst (v := 1) zd_H_two_72 (by decide) ?_
              refine J_icmp_ne (tgt := 86) zd_H_two_73 rfl ?_ ?_
              · refine J_aload_n zd_H_two_86 rfl ?_
                refine J_gR zd_H_two_87 zf_H_49 rfl (fun r10 => ?_)
                refine J_gI zd_H_two_90 zf_H_209 rfl (fun v11 => ?_)
                exact J_iret zd_H_two_93 rfl (Nat.le_of_ble_eq_true rfl) (Nat.le_of_ble_eq_true rfl)
              · refine J_aload_n zd_H_two_76 rfl ?_
                refine J_gR zd_H_two_77 zf_H_49 rfl (fun r12 => ?_)
                refine J_gI zd_H_two_80 zf_H_206 rfl (fun v13 => ?_)
                refine J_goto (tgt := 93) zd_H_two_83 rfl ?_
                exact J_iret zd_H_two_93 rfl (Nat.le_of_ble_eq_true rfl) (Nat.le_of_ble_eq_true rfl)
            · refine J_aload_n zd_H_two_63 rfl ?_
              refine J_gR zd_H_two_64 zf_H_49 rfl (fun r14 => ?_)
              refine J_gI zd_H_two_67 zf_H_203 rfl (fun v15 => ?_)
              exact J_iret zd_H_two_70 rfl (Nat.le_of_ble_eq_true rfl) (Nat.le_of_ble_eq_true rfl)
          · refine J_wid (k := 0) (n := 0) (Nat.le_of_ble_eq_true rfl) (Nat.le_of_ble_eq_true rfl) ?_
            refine J_keep [true, false, false, false, false, false] rfl ?_
            exact j_H_two_44 E _ _
      · refine J_wid (k := 0) (n := 0) (Nat.le_of_ble_eq_true rfl) (Nat.le_of_ble_eq_true rfl) ?_
        refine J_keep [true, false, false, false, false, false] rfl ?_
        exact j_H_two_29 E _ _
def b_H_send_24  (a0 : Nat)  (μ : Mem) : Option (LV × Mem) := cV 9 a0 μ (bI (f_H_refuse a0 (-1) μ) (fun v2 μ1 => (some (.inl v2, μ1))))
set_option maxRecDepth 20000 in
theorem j_H_send_24 (E : EV) (a0 : Nat)  (μ : Mem)  : J E I_H_send (rmk 8 2 69) (QR E I_H_send (rmk 8 2 69)) 0 0 μ 24 [some (.inr a0), none, none, none, none, none, none, none, none, none] [] (b_H_send_24 a0 μ) := by
  unfold b_H_send_24
  refine J_aload_n zd_H_send_24 rfl ?_
  refine J_iconst (v := (-1)) zd_H_send_25 (by decide) ?_
  refine J_callVi (ci := 9) (as := [.inl _]) zd_H_send_26 zm_H_refuse ⟨Nat.le_of_ble_eq_true rfl, Nat.le_of_ble_eq_true rfl⟩ zw_214 zw_216 zs_0 (by decide) rfl rfl (Nat.le_of_ble_eq_true rfl) ⟨Nat.le_of_ble_eq_true rfl, Nat.le_of_ble_eq_true rfl⟩ rfl rfl (c_H_refuse E _ _ _) (fun v2 μ1 => ?_)
  exact J_iret zd_H_send_29 rfl (Nat.le_of_ble_eq_true rfl) (Nat.le_of_ble_eq_true rfl)
def b_H_send_59  (a0 : Nat)  (μ : Mem) : Option (LV × Mem) := cV 9 a0 μ (bI (f_H_refuse a0 (-3) μ) (fun v4 μ3 => (some (.inl v4, μ3))))
set_option maxRecDepth 20000 in
theorem j_H_send_59 (E : EV) (a0 : Nat)  (μ : Mem)  : J E I_H_send (rmk 8 2 69) (QR E I_H_send (rmk 8 2 69)) 0 0 μ 59 [some (.inr a0), none, none, none, none, none, none, none, none, none] [] (b_H_send_59 a0 μ) := by
  unfold b_H_send_59
  refine J_aload_n zd_H_send_59 rfl ?_
  refine J_bipush (v := (-3)) zd_H_send_60 (by decide) ?_
  refine J_callVi (ci := 9) (as := [.inl _]) zd_H_send_62 zm_H_refuse ⟨Nat.le_of_ble_eq_true rfl, Nat.le_of_ble_eq_true rfl⟩ zw_214 zw_216 zs_0 (by decide) rfl rfl (Nat.le_of_ble_eq_true rfl) ⟨Nat.le_of_ble_eq_true rfl, Nat.le_of_ble_eq_true rfl⟩ rfl rfl (c_H_refuse E _ _ _) (fun v4 μ3 => ?_)
  exact J_iret zd_H_send_65 rfl (Nat.le_of_ble_eq_true rfl) (Nat.le_of_ble_eq_true rfl)
def b_H_send_96  (a0 : Nat)  (μ : Mem) : Option (LV × Mem) := cV 9 a0 μ (bI (f_H_refuse a0 (-6) μ) (fun v6 μ5 => (some (.inl v6, μ5))))
set_option maxRecDepth 20000 in
theorem j_H_send_96 (E : EV) (a0 : Nat)  (μ : Mem)  : J E I_H_send (rmk 8 2 69) (QR E I_H_send (rmk 8 2 69)) 0 0 μ 96 [some (.inr a0), none, none, none, none, none, none, none, none, none] [] (b_H_send_96 a0 μ) := by
  unfold b_H_send_96
  refine J_aload_n zd_H_send_96 rfl ?_
  refine J_bipush (v := (-6)) zd_H_send_97 (by decide) ?_
  refine J_callVi (ci := 9) (as := [.inl _]) zd_H_send_99 zm_H_refuse ⟨Nat.le_of_ble_eq_true rfl, Nat.le_of_ble_eq_true rfl⟩ zw_214 zw_216 zs_0 (by decide) rfl rfl (Nat.le_of_ble_eq_true rfl) ⟨Nat.le_of_ble_eq_true rfl, Nat.le_of_ble_eq_true rfl⟩ rfl rfl (c_H_refuse E _ _ _) (fun v6 μ5 => ?_)
  exact J_iret zd_H_send_102 rfl (Nat.le_of_ble_eq_true rfl) (Nat.le_of_ble_eq_true rfl)
def b_H_send_139  (a0 : Nat) (a1 : Int32) (a2 : Int32) (a3 : Int32) (a5 : Nat) (a6 : Nat) (a7 : Int32) (s0 : Int32) (μ : Mem) : Option (LV × Mem) := cV 9 a0 μ (bI (f_H_wayOf a0 a5 a6 μ) (fun v8 μ7 => bI (f_H_cutUp (v8 * 60) s0 μ7) (fun v10 μ9 => nm ((a7 + a3) + v10) (fun v11 => gR 9 a0 5 μ9 (fun r12 => nO μ9 (7, 0) (fun h13 μ14 => cV 9 a0 μ14 (bI (f_H_launchMinute a0 a5 μ14) (fun v16 μ15 => cN h13 (bV (f_U_init h13 a1 a2 v16 a7 v11 μ15) (fun μ17 => cV 11 r12 μ17 (bI (f_AL_add1 r12 h13 μ17) (fun v19 μ18 => pI 0 a5 3 v11 μ18 (fun μ20 => (some (.inl v11, μ20)))))))))))))))
set_option maxRecDepth 20000 in
theorem j_H_send_139 (E : EV) (a0 : Nat) (a1 : Int32) (a2 : Int32) (a3 : Int32) (a5 : Nat) (a6 : Nat) (a7 : Int32) (s0 : Int32) (μ : Mem)  : J E I_H_send (rmk 8 2 69) (QR E I_H_send (rmk 8 2 69)) 0 0 μ 139 [some (.inr a0), some (.inl a1), some (.inl a2), some (.inl a3), none, some (.inr a5), some (.inr a6), some (.inl a7), none, none] [.inl s0] (b_H_send_139 a0 a1 a2 a3 a5 a6 a7 s0 μ) := by
  unfold b_H_send_139
  refine J_istore (lv' := [some _, some _, some _, some _, none, some _, some _, some _, some _, none]) zd_H_send_139 (Nat.le_of_ble_eq_true rfl) rfl ?_
  refine J_iload zd_H_send_141 rfl ?_
  refine J_iload_n zd_H_send_143 rfl ?_
  refine J_iadd zd_H_send_144 ?_
  refine J_aload_n zd_H_send_145 rfl ?_
  refine J_aload zd_H_send_146 rfl ?_
  refine J_aload zd_H_send_148 rfl ?_
  refine J_callVi (ci := 9) (as := [.inr _, .inr _]) zd_H_send_150 zm_H_wayOf ⟨Nat.le_of_ble_eq_true rfl, Nat.le_of_ble_eq_true rfl⟩ zw_509 zw_511 zs_11 (by decide) rfl rfl (Nat.le_of_ble_eq_true rfl) ⟨Nat.le_of_ble_eq_true rfl, Nat.le_of_ble_eq_true rfl⟩ rfl rfl (c_H_wayOf E _ _ _ _) (fun v8 μ7 => ?_)
  refine J_bipush (v := 60) zd_H_send_153 (by decide) ?_
  refine J_imul zd_H_send_155 ?_
  refine J_iload zd_H_send_156 rfl ?_
  refine J_callSi (as := [.inl _, .inl _]) zd_H_send_158 zm_H_cutUp ⟨Nat.le_of_ble_eq_true rfl, Nat.le_of_ble_eq_true rfl⟩ zw_516 zw_517 rfl (Nat.le_of_ble_eq_true rfl) ⟨Nat.le_of_ble_eq_true rfl, Nat.le_of_ble_eq_true rfl⟩ rfl rfl (c_H_cutUp E _ _ _) (fun v10 μ9 => ?_)
  refine J_iadd zd_H_send_161 ?_
  refine J_nm (fun v11 => ?_)
  refine J_istore (lv' := [some _, some _, some _, some _, none, some _, some _, some _, some _, some _]) zd_H_send_162 (Nat.le_of_ble_eq_true rfl) rfl ?_
  refine J_aload_n zd_H_send_164 rfl ?_
  refine J_gR zd_H_send_165 zf_H_29 rfl (fun r12 => ?_)
  refine J_new (ci := 4) zd_H_send_168 ⟨rfl, zi_U, zt_U, zv_U, zw_553, zw_554, zw_20⟩ (Nat.le_of_ble_eq_true rfl) (Nat.le_of_ble_eq_true rfl) (fun h13 μ14 => ?_)
  refine J_dup zd_H_send_171 ?_
  refine J_iload_n zd_H_send_172 rfl ?_
  refine J_iload_n zd_H_send_173 rfl ?_
  refine J_aload_n zd_H_send_174 rfl ?_
  refine J_aload zd_H_send_175 rfl ?_
  refine J_callVi (ci := 9) (as := [.inr _]) zd_H_send_177 zm_H_launchMinute ⟨Nat.le_of_ble_eq_true rfl, Nat.le_of_ble_eq_true rfl⟩ zw_519 zw_521 zs_12 (by decide) rfl rfl (Nat.le_of_ble_eq_true rfl) ⟨Nat.le_of_ble_eq_true rfl, Nat.le_of_ble_eq_true rfl⟩ rfl rfl (c_H_launchMinute E _ _ _) (fun v16 μ15 => ?_)
  refine J_iload zd_H_send_180 rfl ?_
  refine J_iload zd_H_send_182 rfl ?_
  refine J_callI (as := [.inl _, .inl _, .inl _, .inl _, .inl _]) zd_H_send_184 zm_U_init ⟨Nat.le_of_ble_eq_true rfl, Nat.le_of_ble_eq_true rfl⟩ zw_555 zw_556 rfl rfl (Nat.le_of_ble_eq_true rfl) ⟨Nat.le_of_ble_eq_true rfl, Nat.le_of_ble_eq_true rfl⟩ rfl rfl (c_U_init E _ _ _ _ _ _ _) (fun μ17 => ?_)
  refine J_callVi (ci := 11) (as := [.inr _]) zd_H_send_187 zm_AL_add1 ⟨Nat.le_of_ble_eq_true rfl, Nat.le_of_ble_eq_true rfl⟩ zw_260 zw_261 zw_262 (by decide) rfl rfl (Nat.le_of_ble_eq_true rfl) ⟨Nat.le_of_ble_eq_true rfl, Nat.le_of_ble_eq_true rfl⟩ rfl rfl (c_AL_add1 E _ _ _) (fun v19 μ18 => ?_)
  refine J_pop zd_H_send_190 ?_
  refine J_aload zd_H_send_191 rfl ?_
  refine J_iload zd_H_send_193 rfl ?_
  refine J_pI zd_H_send_195 zf_H_231 ⟨zt_B, zn_B, Or.inl rfl⟩ rfl rfl (fun μ20 => ?_)
  refine J_iload zd_H_send_198 rfl ?_
  exact J_iret zd_H_send_200 rfl (Nat.le_of_ble_eq_true rfl) (Nat.le_of_ble_eq_true rfl)
def f_H_send (a0 : Nat) (a1 : Int32) (a2 : Int32) (a3 : Int32) (a4 : Int32) (μ : Mem) : Option (LV × Mem) := cV 9 a0 μ (bR (f_H_boatAt a0 a1 μ) (fun r22 μ21 => cV 9 a0 μ21 (bR (f_H_callAt a0 a2 μ21) (fun r24 μ23 => (if r22 = 0 then (b_H_send_24 a0 μ23) else (if r24 = 0 then (b_H_send_24 a0 μ23) else cV 9 a0 μ23 (bI (f_H_reachedMinute a0 r22 r24 μ23) (fun v26 μ25 => (if v26 = (-9) then (b_H_send_59 a0 μ25) else gI 9 a0 12 μ25 (fun v27 => cV 0 r22 μ25 (bI (f_B_isAway r22 v27 μ25) (fun v29 μ28 => (if v29 = 0 then (if 0 ≤ a3 then (if 600 < a3 then (b_H_send_96 a0 μ28) else gR 9 a0 5 μ28 (fun r30 => cV 11 r30 μ28 (bI (f_AL_size r30 μ28) (fun v32 μ31 => (if v32 < 40 then (if a4 = 0 then gR 0 r22 1 μ31 (fun r33 => gI 1 r24 2 μ31 (fun v34 => aI r33 v34 μ31 (fun v35 => (b_H_send_139 a0 a1 a2 a3 r22 r24 v26 v35 μ31)))) else gR 0 r22 1 μ31 (fun r36 => gI 1 r24 2 μ31 (fun v37 => aI r36 v37 μ31 (fun v38 => bI (f_MA_max 1 (v38 / 2) μ31) (fun v40 μ39 => (b_H_send_139 a0 a1 a2 a3 r22 r24 v26 v40 μ39)))))) else (b_H_send_96 a0 μ31)))))) else cV 9 a0 μ28 (bI (f_H_refuse a0 (-4) μ28) (fun v42 μ41 => (some (.inl v42, μ41))))) else (b_H_send_59 a0 μ28))))))))))))))
set_option maxRecDepth 20000 in
theorem c_H_send (E : EV) (a0 : Nat) (a1 : Int32) (a2 : Int32) (a3 : Int32) (a4 : Int32) (μ : Mem) : Ct E I_H_send (rmk 8 2 69) [.inr a0, .inl a1, .inl a2, .inl a3, .inl a4] μ (f_H_send a0 a1 a2 a3 a4 μ) := by
  refine Ct.of (k := 5) (by decide +kernel) rfl ?_
  show J E I_H_send (rmk 8 2 69) (QR E I_H_send (rmk 8 2 69)) 0 0 μ 0 [some (.inr a0), some (.inl a1), some (.inl a2), some (.inl a3), some (.inl a4), none, none, none, none, none] [] (f_H_send a0 a1 a2 a3 a4 μ)
  unfold f_H_send
  refine J_aload_n zd_H_send_0 rfl ?_
  refine J_iload_n zd_H_send_1 rfl ?_
  refine J_callVr (ci := 9) (as := [.inl _]) zd_H_send_2 zm_H_boatAt ⟨Nat.le_of_ble_eq_true rfl, Nat.le_of_ble_eq_true rfl⟩ zw_459 zw_461 zs_8 (by decide) rfl rfl (Nat.le_of_ble_eq_true rfl) ⟨Nat.le_of_ble_eq_true rfl, Nat.le_of_ble_eq_true rfl⟩ rfl rfl (c_H_boatAt E _ _ _) (fun r22 μ21 => ?_)
  refine J_astore (lv' := [some _, some _, some _, some _, some _, some _, none, none, none, none]) zd_H_send_5 (Nat.le_of_ble_eq_true rfl) rfl ?_
  refine J_aload_n zd_H_send_7 rfl ?_
  refine J_iload_n zd_H_send_8 rfl ?_
  refine J_callVr (ci := 9) (as := [.inl _]) zd_H_send_9 zm_H_callAt ⟨Nat.le_of_ble_eq_true rfl, Nat.le_of_ble_eq_true rfl⟩ zw_501 zw_503 zs_9 (by decide) rfl rfl (Nat.le_of_ble_eq_true rfl) ⟨Nat.le_of_ble_eq_true rfl, Nat.le_of_ble_eq_true rfl⟩ rfl rfl (c_H_callAt E _ _ _) (fun r24 μ23 => ?_)
  refine J_astore (lv' := [some _, some _, some _, some _, some _, some _, some _, none, none, none]) zd_H_send_12 (Nat.le_of_ble_eq_true rfl) rfl ?_
  refine J_aload zd_H_send_14 rfl ?_
  refine J_ifnull (tgt := 24) zd_H_send_16 rfl ?_ ?_
  · refine J_wid (k := 0) (n := 0) (Nat.le_of_ble_eq_true rfl) (Nat.le_of_ble_eq_true rfl) ?_
    refine J_keep [true, false, false, false, false, false, false, false, false, false] rfl ?_
    exact j_H_send_24 E _ _
  · refine J_aload zd_H_send_19 rfl ?_
    refine J_ifnonnull (tgt := 30) zd_H_send_21 rfl ?_ ?_
    · refine J_aload_n zd_H_send_30 rfl ?_
      refine J_aload zd_H_send_31 rfl ?_
      refine J_aload zd_H_send_33 rfl ?_
      refine J_callVi (ci := 9) (as := [.inr _, .inr _]) zd_H_send_35 zm_H_reachedMinute ⟨Nat.le_of_ble_eq_true rfl, Nat.le_of_ble_eq_true rfl⟩ zw_524 zw_526 zs_13 (by decide) rfl rfl (Nat.le_of_ble_eq_true rfl) ⟨Nat.le_of_ble_eq_true rfl, Nat.le_of_ble_eq_true rfl⟩ rfl rfl (c_H_reachedMinute E _ _ _ _) (fun v26 μ25 => ?_)
      refine J_istore (lv' := [some _, some _, some _, some _, some _, some _, some _, some _, none, none]) zd_H_send_38 (Nat.le_of_ble_eq_true rfl) rfl ?_
      refine J_iload zd_H_send_40 rfl ?_
      refine J_bipush (v := (-9)) zd_H_send_42 (by decide) ?_
      refine J_icmp_eq (tgt := 59) zd_H_send_44 rfl ?_ ?_
      · refine J_wid (k := 0) (n := 0) (Nat.le_of_ble_eq_true rfl) (Nat.le_of_ble_eq_true rfl) ?_
        refine J_keep [true, false, false, false, false, false, false, false, false, false] rfl ?_
        exact j_H_send_59 E _ _
      · refine J_aload zd_H_send_47 rfl ?_
        refine J_aload_n zd_H_send_49 rfl ?_
        refine J_gI zd_H_send_50 zf_H_70 rfl (fun v27 => ?_)
        refine J_callVi (ci := 0) (as := [.inl _]) zd_H_send_53 zm_B_isAway ⟨Nat.le_of_ble_eq_true rfl, Nat.le_of_ble_eq_true rfl⟩ zw_470 zw_471 zw_472 (by decide) rfl rfl (Nat.le_of_ble_eq_true rfl) ⟨Nat.le_of_ble_eq_true rfl, Nat.le_of_ble_eq_true rfl⟩ rfl rfl (c_B_isAway E _ _ _) (fun v29 μ28 => ?_)
        refine J_if_eq (tgt := 66) zd_H_send_56 rfl ?_ ?_
        · refine J_iload_n zd_H_send_66 rfl ?_
          refine J_if_ge (tgt := 77) zd_H_send_67 rfl ?_ ?_
          · refine J_iload_n zd_H_send_77 rfl ?_
            refine J_sipush (v := 600) zd_H_send_78 (by decide) ?_
            refine J_icmp_gt (tgt := 96) zd_H_send_81 rfl ?_ ?_
            · refine J_wid (k := 0) (n := 0) (Nat.le_of_ble_eq_true rfl) (Nat.le_of_ble_eq_true rfl) ?_
              refine J_keep [true, false, false, false, false, false, false, false, false, false] rfl ?_
              exact j_H_send_96 E _ _
            · refine J_aload_n zd_H_send_84 rfl ?_
              refine J_gR zd_H_send_85 zf_H_29 rfl (fun r30 => ?_)
              refine J_callVi (ci := 11) (as := []) zd_H_send_88 zm_AL_size ⟨Nat.le_of_ble_eq_true rfl, Nat.le_of_ble_eq_true rfl⟩ zw_225 zw_226 zw_227 (by decide) rfl rfl (Nat.le_of_ble_eq_true rfl) ⟨Nat.le_of_ble_eq_true rfl, Nat.le_of_ble_eq_true rfl⟩ rfl rfl (c_AL_size E _ _) (fun v32 μ31 => ?_)
              refine J_bipush (v := 40) zd_H_send_91 (by decide) ?_
              refine J_icmp_lt (tgt := 103) zd_H_send_93 rfl ?_ ?_
              · refine J_iload zd_H_send_103 rfl ?_
                refine J_if_eq (tgt := 128) zd_H_send_105 rfl ?_ ?_
                · refine J_aload zd_H_send_128 rfl ?_
                  refine J_gR zd_H_send_130 zf_H_173 rfl (fun r33 => ?_)
                  refine J_aload zd_H_send_133 rfl ?_
                  refine J_gI zd_H_send_135 zf_H_212 rfl (fun v34 => ?_)
                  refine J_aI zd_H_send_138 (fun v35 => ?_)
                  refine J_wid (k := 0) (n := 0) (Nat.le_of_ble_eq_true rfl) (Nat.le_of_ble_eq_true rfl) ?_
                  refine J_keep [true, true, true, true, false, true, true, true, false, false] rfl ?_
                  exact j_H_send_139 E _ _ _ _ _ _ _ _ _
                · refine J_iconst (v := 1) zd_H_send_108 (by decide) ?_
                  refine J_aload zd_H_send_109 rfl ?_
                  refine J_gR zd_H_send_111 zf_H_173 rfl (fun r36 => ?_)
                  refine J_aload zd_H_send_114 rfl ?_
                  refine J_gI zd_H_send_116 zf_H_212 rfl (fun v37 => ?_)
                  refine J_aI zd_H_send_119 (fun v38 => ?_)
                  refine J_iconst (v := 2) zd_H_send_120 (by decide) ?_
                  refine J_idivL zd_H_send_121 (by decide) ?_
                  refine J_callSi (as := [.inl _, .inl _]) zd_H_send_122 zm_MA_max ⟨Nat.le_of_ble_eq_true rfl, Nat.le_of_ble_eq_true rfl⟩ zw_523 zw_280 rfl (Nat.le_of_ble_eq_true rfl) ⟨Nat.le_of_ble_eq_true rfl, Nat.le_of_ble_eq_true rfl⟩ rfl rfl (c_MA_max E _ _ _) (fun v40 μ39 => ?_)
                  refine J_goto (tgt := 139) zd_H_send_125 rfl ?_
                  refine J_wid (k := 0) (n := 0) (Nat.le_of_ble_eq_true rfl) (Nat.le_of_ble_eq_true rfl) ?_
                  refine J_keep [true, true, true, true, false, true, true, true, false, false] rfl ?_
                  exact j_H_send_139 E _ _ _ _ _ _ _ _ _
              · refine J_wid (k := 0) (n := 0) (Nat.le_of_ble_eq_true rfl) (Nat.le_of_ble_eq_true rfl) ?_
                refine J_keep [true, false, false, false, false, false, false, false, false, false] rfl ?_
                exact j_H_send_96 E _ _
          · refine J_aload_n zd_H_send_70 rfl ?_
            refine J_bipush (v := (-4)) zd_H_send_71 (by decide) ?_
            refine J_callVi (ci := 9) (as := [.inl _]) zd_H_send_73 zm_H_refuse ⟨Nat.le_of_ble_eq_true rfl, Nat.le_of_ble_eq_true rfl⟩ zw_214 zw_216 zs_0 (by decide) rfl rfl (Nat.le_of_ble_eq_true rfl) ⟨Nat.le_of_ble_eq_true rfl, Nat.le_of_ble_eq_true rfl⟩ rfl rfl (c_H_refuse E _ _ _) (fun v42 μ41 => ?_)
            exact J_iret zd_H_send_76 rfl (Nat.le_of_ble_eq_true rfl) (Nat.le_of_ble_eq_true rfl)
        · refine J_wid (k := 0) (n := 0) (Nat.le_of_ble_eq_true rfl) (Nat.le_of_ble_eq_true rfl) ?_
          refine J_keep [true, false, false, false, false, false, false, false, false, false] rfl ?_
          exact j_H_send_59 E _ _
    · refine J_wid (k := 0) (n := 0) (Nat.le_of_ble_eq_true rfl) (Nat.le_of_ble_eq_true rfl) ?_
      refine J_keep [true, false, false, false, false, false, false, false, false, false] rfl ?_
      exact j_H_send_24 E _ _
def b_H_log_9  (a0 : Nat)  (μ : Mem) : Option (LV × Mem) := cV 9 a0 μ (bI (f_H_refuse a0 (-2) μ) (fun v2 μ1 => (some (.inl v2, μ1))))
set_option maxRecDepth 20000 in
theorem j_H_log_9 (E : EV) (a0 : Nat)  (μ : Mem)  : J E I_H_log (rmk 4 0 0) (QR E I_H_log (rmk 4 0 0)) 0 0 μ 9 [some (.inr a0), none, none] [] (b_H_log_9 a0 μ) := by
  unfold b_H_log_9
  refine J_aload_n zd_H_log_9 rfl ?_
  refine J_bipush (v := (-2)) zd_H_log_10 (by decide) ?_
  refine J_callVi (ci := 9) (as := [.inl _]) zd_H_log_12 zm_H_refuse ⟨Nat.le_of_ble_eq_true rfl, Nat.le_of_ble_eq_true rfl⟩ zw_214 zw_216 zs_0 (by decide) rfl rfl (Nat.le_of_ble_eq_true rfl) ⟨Nat.le_of_ble_eq_true rfl, Nat.le_of_ble_eq_true rfl⟩ rfl rfl (c_H_refuse E _ _ _) (fun v2 μ1 => ?_)
  exact J_iret zd_H_log_15 rfl (Nat.le_of_ble_eq_true rfl) (Nat.le_of_ble_eq_true rfl)
def f_H_log (a0 : Nat) (a1 : Int32) (a2 : Int32) (μ : Mem) : Option (LV × Mem) := (if a2 < 0 then (b_H_log_9 a0 μ) else (if a2 ≤ 4 then (if a1 < 0 then (some (.inl (-9), μ)) else gR 9 a0 5 μ (fun r3 => cV 11 r3 μ (bI (f_AL_size r3 μ) (fun v5 μ4 => (if a1 < v5 then gR 9 a0 5 μ4 (fun r6 => cV 11 r6 μ4 (bR (f_AL_get r6 a1 μ4) (fun r8 μ7 => cC 4 r8 μ7 (cV 4 r8 μ7 (bI (f_U_told r8 a2 μ7) (fun v10 μ9 => (some (.inl v10, μ9)))))))) else (some (.inl (-9), μ4))))))) else (b_H_log_9 a0 μ)))
set_option maxRecDepth 20000 in
theorem c_H_log (E : EV) (a0 : Nat) (a1 : Int32) (a2 : Int32) (μ : Mem) : Ct E I_H_log (rmk 4 0 0) [.inr a0, .inl a1, .inl a2] μ (f_H_log a0 a1 a2 μ) := by
  refine Ct.of (k := 0) (by decide +kernel) rfl ?_
  show J E I_H_log (rmk 4 0 0) (QR E I_H_log (rmk 4 0 0)) 0 0 μ 0 [some (.inr a0), some (.inl a1), some (.inl a2)] [] (f_H_log a0 a1 a2 μ)
  unfold f_H_log
  refine J_iload_n zd_H_log_0 rfl ?_
  refine J_if_lt (tgt := 9) zd_H_log_1 rfl ?_ ?_
  · refine J_wid (k := 0) (n := 0) (Nat.le_of_ble_eq_true rfl) (Nat.le_of_ble_eq_true rfl) ?_
    refine J_keep [true, false, false] rfl ?_
    exact j_H_log_9 E _ _
  · refine J_iload_n zd_H_log_4 rfl ?_
    refine J_iconst (v := 4) zd_H_log_5 (by decide) ?_
    refine J_icmp_le (tgt := 16) zd_H_log_6 rfl ?_ ?_
    · refine J_iload_n zd_H_log_16 rfl ?_
      refine J_if_lt (tgt := 31) zd_H_log_17 rfl ?_ ?_
      · refine J_bipush (v := (-9)) zd_H_log_31 (by decide) ?_
        exact J_iret zd_H_log_33 rfl (Nat.le_of_ble_eq_true rfl) (Nat.le_of_ble_eq_true rfl)
      · refine J_iload_n zd_H_log_20 rfl ?_
        refine J_aload_n zd_H_log_21 rfl ?_
        refine J_gR zd_H_log_22 zf_H_29 rfl (fun r3 => ?_)
        refine J_callVi (ci := 11) (as := []) zd_H_log_25 zm_AL_size ⟨Nat.le_of_ble_eq_true rfl, Nat.le_of_ble_eq_true rfl⟩ zw_225 zw_226 zw_227 (by decide) rfl rfl (Nat.le_of_ble_eq_true rfl) ⟨Nat.le_of_ble_eq_true rfl, Nat.le_of_ble_eq_true rfl⟩ rfl rfl (c_AL_size E _ _) (fun v5 μ4 => ?_)
        refine J_icmp_lt (tgt := 34) zd_H_log_28 rfl ?_ ?_
        · refine J_aload_n zd_H_log_34 rfl ?_
          refine J_gR zd_H_log_35 zf_H_29 rfl (fun r6 => ?_)
          refine J_iload_n zd_H_log_38 rfl ?_
          refine J_callVr (ci := 11) (as := [.inl _]) zd_H_log_39 zm_AL_get ⟨Nat.le_of_ble_eq_true rfl, Nat.le_of_ble_eq_true rfl⟩ zw_327 zw_328 zw_329 (by decide) rfl rfl (Nat.le_of_ble_eq_true rfl) ⟨Nat.le_of_ble_eq_true rfl, Nat.le_of_ble_eq_true rfl⟩ rfl rfl (c_AL_get E _ _ _) (fun r8 μ7 => ?_)
          refine J_cast (ci := 4) zd_H_log_42 (by decide) rfl zw_553 ?_
          refine J_iload_n zd_H_log_45 rfl ?_
          refine J_callVi (ci := 4) (as := [.inl _]) zd_H_log_46 zm_U_told ⟨Nat.le_of_ble_eq_true rfl, Nat.le_of_ble_eq_true rfl⟩ zw_579 zw_580 zw_581 (by decide) rfl rfl (Nat.le_of_ble_eq_true rfl) ⟨Nat.le_of_ble_eq_true rfl, Nat.le_of_ble_eq_true rfl⟩ rfl rfl (c_U_told E _ _ _) (fun v10 μ9 => ?_)
          exact J_iret zd_H_log_49 rfl (Nat.le_of_ble_eq_true rfl) (Nat.le_of_ble_eq_true rfl)
        · refine J_bipush (v := (-9)) zd_H_log_31 (by decide) ?_
          exact J_iret zd_H_log_33 rfl (Nat.le_of_ble_eq_true rfl) (Nat.le_of_ble_eq_true rfl)
    · refine J_wid (k := 0) (n := 0) (Nat.le_of_ble_eq_true rfl) (Nat.le_of_ble_eq_true rfl) ?_
      refine J_keep [true, false, false] rfl ?_
      exact j_H_log_9 E _ _
def b_H_boatsReadyAt_52 (c4 : Int32 → Int32 → Mem → Option (LV × Mem)) (a0 : Nat) (a1 : Int32) (a2 : Int32) (a3 : Int32)  (μ : Mem) : Option (LV × Mem) := (c4 a2 (a3 + 1) μ)
set_option maxRecDepth 20000 in
theorem j_H_boatsReadyAt_52 (E : EV) (a0 : Nat) (a1 : Int32) (a2 : Int32) (a3 : Int32)  (μ : Mem) {c4 : Int32 → Int32 → Mem → Option (LV × Mem)} (h4 : ∀ (b2 : Int32) (b3 : Int32)  (μ : Mem), J E I_H_boatsReadyAt (rmk 4 0 0) (QR E I_H_boatsReadyAt (rmk 4 0 0)) 0 0 μ 4 [some (.inr a0), some (.inl a1), some (.inl b2), some (.inl b3), none] [] (c4 b2 b3 μ)) : J E I_H_boatsReadyAt (rmk 4 0 0) (QR E I_H_boatsReadyAt (rmk 4 0 0)) 0 0 μ 52 [some (.inr a0), some (.inl a1), some (.inl a2), some (.inl a3), none] [] (b_H_boatsReadyAt_52 c4 a0 a1 a2 a3 μ) := by
  unfold b_H_boatsReadyAt_52
  refine J_iinc (v := _ + 1) (lv' := [some _, some _, some _, some _, none]) zd_H_boatsReadyAt_52 (Nat.le_of_ble_eq_true rfl) rfl (by rfl) rfl ?_
  refine J_goto (tgt := 4) zd_H_boatsReadyAt_55 rfl ?_
  refine J_wid (k := 0) (n := 0) (Nat.le_of_ble_eq_true rfl) (Nat.le_of_ble_eq_true rfl) ?_
  refine J_keep [true, true, true, true, false] rfl ?_
  exact h4 _ _ _
def k_H_boatsReadyAt_4  (a0 : Nat) (a1 : Int32) : Nat → Int32 → Int32 → Mem → Option (LV × Mem)
  | 0, _, _, _ => none
  | n + 1, a2, a3, μ => gR 9 a0 3 μ (fun r1 => cV 11 r1 μ (bI (f_AL_size r1 μ) (fun v3 μ2 => (if v3 ≤ a3 then (some (.inl a2, μ2)) else gR 9 a0 3 μ2 (fun r4 => cV 11 r4 μ2 (bR (f_AL_get r4 a3 μ2) (fun r6 μ5 => cC 0 r6 μ5 (gI 0 r6 2 μ5 (fun v7 => (if v7 = a1 then gI 9 a0 12 μ5 (fun v8 => cV 0 r6 μ5 (bI (f_B_isAway r6 v8 μ5) (fun v10 μ9 => (if v10 = 0 then (b_H_boatsReadyAt_52 (k_H_boatsReadyAt_4 a0 a1 n) a0 a1 (a2 + 1) a3 μ9) else (b_H_boatsReadyAt_52 (k_H_boatsReadyAt_4 a0 a1 n) a0 a1 a2 a3 μ9))))) else (b_H_boatsReadyAt_52 (k_H_boatsReadyAt_4 a0 a1 n) a0 a1 a2 a3 μ5)))))))))))
set_option maxRecDepth 20000 in
theorem j_H_boatsReadyAt_4 (E : EV) (a0 : Nat) (a1 : Int32)  : ∀ (n : Nat) (a2 : Int32) (a3 : Int32) (μ : Mem), J E I_H_boatsReadyAt (rmk 4 0 0) (QR E I_H_boatsReadyAt (rmk 4 0 0)) 0 0 μ 4 [some (.inr a0), some (.inl a1), some (.inl a2), some (.inl a3), none] [] (k_H_boatsReadyAt_4 a0 a1 n a2 a3 μ)
  | 0, _, _, _ => J_none
  | n + 1, a2, a3, μ => by
    show J E I_H_boatsReadyAt (rmk 4 0 0) (QR E I_H_boatsReadyAt (rmk 4 0 0)) 0 0 μ 4 [some (.inr a0), some (.inl a1), some (.inl a2), some (.inl a3), none] [] (gR 9 a0 3 μ (fun r1 => cV 11 r1 μ (bI (f_AL_size r1 μ) (fun v3 μ2 => (if v3 ≤ a3 then (some (.inl a2, μ2)) else gR 9 a0 3 μ2 (fun r4 => cV 11 r4 μ2 (bR (f_AL_get r4 a3 μ2) (fun r6 μ5 => cC 0 r6 μ5 (gI 0 r6 2 μ5 (fun v7 => (if v7 = a1 then gI 9 a0 12 μ5 (fun v8 => cV 0 r6 μ5 (bI (f_B_isAway r6 v8 μ5) (fun v10 μ9 => (if v10 = 0 then (b_H_boatsReadyAt_52 (k_H_boatsReadyAt_4 a0 a1 n) a0 a1 (a2 + 1) a3 μ9) else (b_H_boatsReadyAt_52 (k_H_boatsReadyAt_4 a0 a1 n) a0 a1 a2 a3 μ9))))) else (b_H_boatsReadyAt_52 (k_H_boatsReadyAt_4 a0 a1 n) a0 a1 a2 a3 μ5))))))))))))
    refine J_iload_n zd_H_boatsReadyAt_4 rfl ?_
    refine J_aload_n zd_H_boatsReadyAt_5 rfl ?_
    refine J_gR zd_H_boatsReadyAt_6 zf_H_23 rfl (fun r1 => ?_)
    refine J_callVi (ci := 11) (as := []) zd_H_boatsReadyAt_9 zm_AL_size ⟨Nat.le_of_ble_eq_true rfl, Nat.le_of_ble_eq_true rfl⟩ zw_225 zw_226 zw_227 (by decide) rfl rfl (Nat.le_of_ble_eq_true rfl) ⟨Nat.le_of_ble_eq_true rfl, Nat.le_of_ble_eq_true rfl⟩ rfl rfl (c_AL_size E _ _) (fun v3 μ2 => ?_)
    refine J_icmp_ge (tgt := 58) zd_H_boatsReadyAt_12 rfl ?_ ?_
    · refine J_iload_n zd_H_boatsReadyAt_58 rfl ?_
      exact J_iret zd_H_boatsReadyAt_59 rfl (Nat.le_of_ble_eq_true rfl) (Nat.le_of_ble_eq_true rfl)
    · refine J_aload_n zd_H_boatsReadyAt_15 rfl ?_
      refine J_gR zd_H_boatsReadyAt_16 zf_H_23 rfl (fun r4 => ?_)
      refine J_iload_n zd_H_boatsReadyAt_19 rfl ?_
      refine J_callVr (ci := 11) (as := [.inl _]) zd_H_boatsReadyAt_20 zm_AL_get ⟨Nat.le_of_ble_eq_true rfl, Nat.le_of_ble_eq_true rfl⟩ zw_327 zw_328 zw_329 (by decide) rfl rfl (Nat.le_of_ble_eq_true rfl) ⟨Nat.le_of_ble_eq_true rfl, Nat.le_of_ble_eq_true rfl⟩ rfl rfl (c_AL_get E _ _ _) (fun r6 μ5 => ?_)
      refine J_cast (ci := 0) zd_H_boatsReadyAt_23 (by decide) rfl zw_432 ?_
      refine J_astore (lv' := [some _, some _, some _, some _, some _]) zd_H_boatsReadyAt_26 (Nat.le_of_ble_eq_true rfl) rfl ?_
      refine J_aload zd_H_boatsReadyAt_28 rfl ?_
      refine J_gI zd_H_boatsReadyAt_30 zf_H_179 rfl (fun v7 => ?_)
      refine J_iload_n zd_H_boatsReadyAt_33 rfl ?_
      refine J_icmp_ne (tgt := 52) zd_H_boatsReadyAt_34 rfl ?_ ?_
      · refine J_wid (k := 0) (n := 0) (Nat.le_of_ble_eq_true rfl) (Nat.le_of_ble_eq_true rfl) ?_
        refine J_keep [true, true, true, true, false] rfl ?_
        exact j_H_boatsReadyAt_52 E _ _ _ _ _ (j_H_boatsReadyAt_4 E a0 a1 n)
      · refine J_aload zd_H_boatsReadyAt_37 rfl ?_
        refine J_aload_n zd_H_boatsReadyAt_39 rfl ?_
        refine J_gI zd_H_boatsReadyAt_40 zf_H_70 rfl (fun v8 => ?_)
        refine J_callVi (ci := 0) (as := [.inl _]) zd_H_boatsReadyAt_43 zm_B_isAway ⟨Nat.le_of_ble_eq_true rfl, Nat.le_of_ble_eq_true rfl⟩ zw_470 zw_471 zw_472 (by decide) rfl rfl (Nat.le_of_ble_eq_true rfl) ⟨Nat.le_of_ble_eq_true rfl, Nat.le_of_ble_eq_true rfl⟩ rfl rfl (c_B_isAway E _ _ _) (fun v10 μ9 => ?_)
        refine J_if_ne (tgt := 52) zd_H_boatsReadyAt_46 rfl ?_ ?_
        · refine J_wid (k := 0) (n := 0) (Nat.le_of_ble_eq_true rfl) (Nat.le_of_ble_eq_true rfl) ?_
          refine J_keep [true, true, true, true, false] rfl ?_
          exact j_H_boatsReadyAt_52 E _ _ _ _ _ (j_H_boatsReadyAt_4 E a0 a1 n)
        · refine J_iinc (v := _ + 1) (lv' := [some _, some _, some _, some _, some _]) zd_H_boatsReadyAt_49 (Nat.le_of_ble_eq_true rfl) rfl (by rfl) rfl ?_
          refine J_wid (k := 0) (n := 0) (Nat.le_of_ble_eq_true rfl) (Nat.le_of_ble_eq_true rfl) ?_
          refine J_keep [true, true, true, true, false] rfl ?_
          exact j_H_boatsReadyAt_52 E _ _ _ _ _ (j_H_boatsReadyAt_4 E a0 a1 n)
def f_H_boatsReadyAt (a0 : Nat) (a1 : Int32) (μ : Mem) : Option (LV × Mem) := (k_H_boatsReadyAt_4 a0 a1 120000 0 0 μ)
set_option maxRecDepth 20000 in
theorem c_H_boatsReadyAt (E : EV) (a0 : Nat) (a1 : Int32) (μ : Mem) : Ct E I_H_boatsReadyAt (rmk 4 0 0) [.inr a0, .inl a1] μ (f_H_boatsReadyAt a0 a1 μ) := by
  refine Ct.of (k := 3) (by decide +kernel) rfl ?_
  show J E I_H_boatsReadyAt (rmk 4 0 0) (QR E I_H_boatsReadyAt (rmk 4 0 0)) 0 0 μ 0 [some (.inr a0), some (.inl a1), none, none, none] [] (f_H_boatsReadyAt a0 a1 μ)
  unfold f_H_boatsReadyAt
  refine J_iconst (v := 0) zd_H_boatsReadyAt_0 (by decide) ?_
  refine J_istore_n (lv' := [some _, some _, some _, none, none]) zd_H_boatsReadyAt_1 (Nat.le_of_ble_eq_true rfl) rfl ?_
  refine J_iconst (v := 0) zd_H_boatsReadyAt_2 (by decide) ?_
  refine J_istore_n (lv' := [some _, some _, some _, some _, none]) zd_H_boatsReadyAt_3 (Nat.le_of_ble_eq_true rfl) rfl ?_
  refine J_wid (k := 0) (n := 0) (Nat.le_of_ble_eq_true rfl) (Nat.le_of_ble_eq_true rfl) ?_
  refine J_keep [true, true, true, true, false] rfl ?_
  exact j_H_boatsReadyAt_4 E _ _ _ _ _ _
def f_H_covered (a0 : Nat) (a1 : Int32) (μ : Mem) : Option (LV × Mem) := bI (f_H_isStation a1 μ) (fun v2 μ1 => (if v2 = 0 then cV 9 a0 μ1 (bI (f_H_refuse a0 (-1) μ1) (fun v6 μ5 => (some (.inl v6, μ5)))) else cV 9 a0 μ1 (bI (f_H_boatsReadyAt a0 a1 μ1) (fun v4 μ3 => (if v4 ≤ 0 then (some (.inl 0, μ3)) else (some (.inl 1, μ3)))))))
set_option maxRecDepth 20000 in
theorem c_H_covered (E : EV) (a0 : Nat) (a1 : Int32) (μ : Mem) : Ct E I_H_covered (rmk 5 0 0) [.inr a0, .inl a1] μ (f_H_covered a0 a1 μ) := by
  refine Ct.of (k := 0) (by decide +kernel) rfl ?_
  show J E I_H_covered (rmk 5 0 0) (QR E I_H_covered (rmk 5 0 0)) 0 0 μ 0 [some (.inr a0), some (.inl a1)] [] (f_H_covered a0 a1 μ)
  unfold f_H_covered
  refine J_iload_n zd_H_covered_0 rfl ?_
  refine J_callSi (as := [.inl _]) zd_H_covered_1 zm_H_isStation ⟨Nat.le_of_ble_eq_true rfl, Nat.le_of_ble_eq_true rfl⟩ zw_211 zw_212 rfl (Nat.le_of_ble_eq_true rfl) ⟨Nat.le_of_ble_eq_true rfl, Nat.le_of_ble_eq_true rfl⟩ rfl rfl (c_H_isStation E _ _) (fun v2 μ1 => ?_)
  refine J_if_ne (tgt := 13) zd_H_covered_4 rfl ?_ ?_
  · refine J_aload_n zd_H_covered_13 rfl ?_
    refine J_iload_n zd_H_covered_14 rfl ?_
    refine J_callVi (ci := 9) (as := [.inl _]) zd_H_covered_15 zm_H_boatsReadyAt ⟨Nat.le_of_ble_eq_true rfl, Nat.le_of_ble_eq_true rfl⟩ zw_587 zw_589 zs_15 (by decide) rfl rfl (Nat.le_of_ble_eq_true rfl) ⟨Nat.le_of_ble_eq_true rfl, Nat.le_of_ble_eq_true rfl⟩ rfl rfl (c_H_boatsReadyAt E _ _ _) (fun v4 μ3 => ?_)
    refine J_if_le (tgt := 25) zd_H_covered_18 rfl ?_ ?_
    · refine J_iconst (v := 0) zd_H_covered_25 (by decide) ?_
      exact J_iret zd_H_covered_26 rfl (Nat.le_of_ble_eq_true rfl) (Nat.le_of_ble_eq_true rfl)
    · refine J_iconst (v := 1) zd_H_covered_21 (by decide) ?_
      refine J_goto (tgt := 26) zd_H_covered_22 rfl ?_
      exact J_iret zd_H_covered_26 rfl (Nat.le_of_ble_eq_true rfl) (Nat.le_of_ble_eq_true rfl)
  · refine J_aload_n zd_H_covered_7 rfl ?_
    refine J_iconst (v := (-1)) zd_H_covered_8 (by decide) ?_
    refine J_callVi (ci := 9) (as := [.inl _]) zd_H_covered_9 zm_H_refuse ⟨Nat.le_of_ble_eq_true rfl, Nat.le_of_ble_eq_true rfl⟩ zw_214 zw_216 zs_0 (by decide) rfl rfl (Nat.le_of_ble_eq_true rfl) ⟨Nat.le_of_ble_eq_true rfl, Nat.le_of_ble_eq_true rfl⟩ rfl rfl (c_H_refuse E _ _ _) (fun v6 μ5 => ?_)
    exact J_iret zd_H_covered_12 rfl (Nat.le_of_ble_eq_true rfl) (Nat.le_of_ble_eq_true rfl)
def k_H_planFlanks_2 (c33 : Nat → Mem → Option (LV × Mem)) (a0 : Nat) : Nat → Int32 → Mem → Option (LV × Mem)
  | 0, _, _ => none
  | n + 1, a1, μ => (if 6 ≤ a1 then (c33 a0 μ) else gR 9 a0 9 μ (fun r1 => gR 9 a0 0 μ (fun r2 => aI r2 a1 μ (fun v3 => cV 9 a0 μ (bI (f_H_boatsReadyAt a0 a1 μ) (fun v5 μ4 => cV 3 r1 μ4 (bV (f_F_tellReady r1 a1 v3 v5 μ4) (fun μ6 => (k_H_planFlanks_2 c33 a0 n (a1 + 1) μ6)))))))))
set_option maxRecDepth 20000 in
theorem j_H_planFlanks_2 (E : EV) (a0 : Nat) {c33 : Nat → Mem → Option (LV × Mem)} (h33 : ∀ (b0 : Nat)  (μ : Mem), J E I_H_planFlanks (rmk 13 0 0) (QR E I_H_planFlanks (rmk 13 0 0)) 0 0 μ 33 [some (.inr b0), none] [] (c33 b0 μ)) : ∀ (n : Nat) (a1 : Int32) (μ : Mem), J E I_H_planFlanks (rmk 13 0 0) (QR E I_H_planFlanks (rmk 13 0 0)) 0 0 μ 2 [some (.inr a0), some (.inl a1)] [] (k_H_planFlanks_2 c33 a0 n a1 μ)
  | 0, _, _ => J_none
  | n + 1, a1, μ => by
    show J E I_H_planFlanks (rmk 13 0 0) (QR E I_H_planFlanks (rmk 13 0 0)) 0 0 μ 2 [some (.inr a0), some (.inl a1)] [] ((if 6 ≤ a1 then (c33 a0 μ) else gR 9 a0 9 μ (fun r1 => gR 9 a0 0 μ (fun r2 => aI r2 a1 μ (fun v3 => cV 9 a0 μ (bI (f_H_boatsReadyAt a0 a1 μ) (fun v5 μ4 => cV 3 r1 μ4 (bV (f_F_tellReady r1 a1 v3 v5 μ4) (fun μ6 => (k_H_planFlanks_2 c33 a0 n (a1 + 1) μ6))))))))))
    refine J_iload_n zd_H_planFlanks_2 rfl ?_
    refine J_bipush (v := 6) zd_H_planFlanks_3 (by decide) ?_
    refine J_icmp_ge (tgt := 33) zd_H_planFlanks_5 rfl ?_ ?_
    · refine J_wid (k := 0) (n := 0) (Nat.le_of_ble_eq_true rfl) (Nat.le_of_ble_eq_true rfl) ?_
      refine J_keep [true, false] rfl ?_
      exact h33 _ _
    · refine J_aload_n zd_H_planFlanks_8 rfl ?_
      refine J_gR zd_H_planFlanks_9 zf_H_56 rfl (fun r1 => ?_)
      refine J_iload_n zd_H_planFlanks_12 rfl ?_
      refine J_aload_n zd_H_planFlanks_13 rfl ?_
      refine J_gR zd_H_planFlanks_14 zf_H_9 rfl (fun r2 => ?_)
      refine J_iload_n zd_H_planFlanks_17 rfl ?_
      refine J_aI zd_H_planFlanks_18 (fun v3 => ?_)
      refine J_aload_n zd_H_planFlanks_19 rfl ?_
      refine J_iload_n zd_H_planFlanks_20 rfl ?_
      refine J_callVi (ci := 9) (as := [.inl _]) zd_H_planFlanks_21 zm_H_boatsReadyAt ⟨Nat.le_of_ble_eq_true rfl, Nat.le_of_ble_eq_true rfl⟩ zw_587 zw_589 zs_15 (by decide) rfl rfl (Nat.le_of_ble_eq_true rfl) ⟨Nat.le_of_ble_eq_true rfl, Nat.le_of_ble_eq_true rfl⟩ rfl rfl (c_H_boatsReadyAt E _ _ _) (fun v5 μ4 => ?_)
      refine J_callVv (ci := 3) (as := [.inl _, .inl _, .inl _]) zd_H_planFlanks_24 zm_F_tellReady ⟨Nat.le_of_ble_eq_true rfl, Nat.le_of_ble_eq_true rfl⟩ zw_599 zw_600 zw_601 (by decide) rfl rfl (Nat.le_of_ble_eq_true rfl) ⟨Nat.le_of_ble_eq_true rfl, Nat.le_of_ble_eq_true rfl⟩ rfl rfl (c_F_tellReady E _ _ _ _ _) (fun μ6 => ?_)
      refine J_iinc (v := _ + 1) (lv' := [some _, some _]) zd_H_planFlanks_27 (Nat.le_of_ble_eq_true rfl) rfl (by rfl) rfl ?_
      refine J_goto (tgt := 2) zd_H_planFlanks_30 rfl ?_
      refine J_wid (k := 0) (n := 0) (Nat.le_of_ble_eq_true rfl) (Nat.le_of_ble_eq_true rfl) ?_
      refine J_keep [true, true] rfl ?_
      exact j_H_planFlanks_2 E a0 h33 n _ _
def b_H_planFlanks_33  (a0 : Nat)  (μ : Mem) : Option (LV × Mem) := gR 9 a0 9 μ (fun r7 => cV 3 r7 μ (bV (f_F_find r7 μ) (fun μ8 => (some (.inl 0, μ8)))))
set_option maxRecDepth 20000 in
theorem j_H_planFlanks_33 (E : EV) (a0 : Nat)  (μ : Mem)  : J E I_H_planFlanks (rmk 13 0 0) (QR E I_H_planFlanks (rmk 13 0 0)) 0 0 μ 33 [some (.inr a0), none] [] (b_H_planFlanks_33 a0 μ) := by
  unfold b_H_planFlanks_33
  refine J_aload_n zd_H_planFlanks_33 rfl ?_
  refine J_gR zd_H_planFlanks_34 zf_H_56 rfl (fun r7 => ?_)
  refine J_callVv (ci := 3) (as := []) zd_H_planFlanks_37 zm_F_find ⟨Nat.le_of_ble_eq_true rfl, Nat.le_of_ble_eq_true rfl⟩ zw_604 zw_605 zw_606 (by decide) rfl rfl (Nat.le_of_ble_eq_true rfl) ⟨Nat.le_of_ble_eq_true rfl, Nat.le_of_ble_eq_true rfl⟩ rfl rfl (c_F_find E _ _) (fun μ8 => ?_)
  exact J_vret zd_H_planFlanks_40 rfl (Nat.le_of_ble_eq_true rfl) (Nat.le_of_ble_eq_true rfl)
def f_H_planFlanks (a0 : Nat) (μ : Mem) : Option (LV × Mem) := (k_H_planFlanks_2 (fun b0 m_ => b_H_planFlanks_33 b0 m_) a0 120000 0 μ)
set_option maxRecDepth 20000 in
theorem c_H_planFlanks (E : EV) (a0 : Nat) (μ : Mem) : Ct E I_H_planFlanks (rmk 13 0 0) [.inr a0] μ (f_H_planFlanks a0 μ) := by
  refine Ct.of (k := 1) (by decide +kernel) rfl ?_
  show J E I_H_planFlanks (rmk 13 0 0) (QR E I_H_planFlanks (rmk 13 0 0)) 0 0 μ 0 [some (.inr a0), none] [] (f_H_planFlanks a0 μ)
  unfold f_H_planFlanks
  refine J_iconst (v := 0) zd_H_planFlanks_0 (by decide) ?_
  refine J_istore_n (lv' := [some _, some _]) zd_H_planFlanks_1 (Nat.le_of_ble_eq_true rfl) rfl ?_
  refine J_wid (k := 0) (n := 0) (Nat.le_of_ble_eq_true rfl) (Nat.le_of_ble_eq_true rfl) ?_
  refine J_keep [true, true] rfl ?_
  exact j_H_planFlanks_2 E _ (fun b0 m_ => j_H_planFlanks_33 E b0 m_) _ _ _
def b_H_flanks_16  (a0 : Nat) (a1 : Int32)  (μ : Mem) : Option (LV × Mem) := cV 9 a0 μ (bV (f_H_planFlanks a0 μ) (fun μ1 => (if a1 = 0 then gR 9 a0 9 μ1 (fun r4 => gI 3 r4 1 μ1 (fun v5 => (some (.inl v5, μ1)))) else gR 9 a0 9 μ1 (fun r2 => gI 3 r2 2 μ1 (fun v3 => (some (.inl v3, μ1)))))))
set_option maxRecDepth 20000 in
theorem j_H_flanks_16 (E : EV) (a0 : Nat) (a1 : Int32)  (μ : Mem)  : J E I_H_flanks (rmk 14 0 0) (QR E I_H_flanks (rmk 14 0 0)) 0 0 μ 16 [some (.inr a0), some (.inl a1)] [] (b_H_flanks_16 a0 a1 μ) := by
  unfold b_H_flanks_16
  refine J_aload_n zd_H_flanks_16 rfl ?_
  refine J_callVv (ci := 9) (as := []) zd_H_flanks_17 zm_H_planFlanks ⟨Nat.le_of_ble_eq_true rfl, Nat.le_of_ble_eq_true rfl⟩ zw_595 zw_597 zs_16 (by decide) rfl rfl (Nat.le_of_ble_eq_true rfl) ⟨Nat.le_of_ble_eq_true rfl, Nat.le_of_ble_eq_true rfl⟩ rfl rfl (c_H_planFlanks E _ _) (fun μ1 => ?_)
  refine J_iload_n zd_H_flanks_20 rfl ?_
  refine J_if_ne (tgt := 34) zd_H_flanks_21 rfl ?_ ?_
  · refine J_aload_n zd_H_flanks_34 rfl ?_
    refine J_gR zd_H_flanks_35 zf_H_56 rfl (fun r2 => ?_)
    refine J_gI zd_H_flanks_38 zf_H_262 rfl (fun v3 => ?_)
    exact J_iret zd_H_flanks_41 rfl (Nat.le_of_ble_eq_true rfl) (Nat.le_of_ble_eq_true rfl)
  · refine J_aload_n zd_H_flanks_24 rfl ?_
    refine J_gR zd_H_flanks_25 zf_H_56 rfl (fun r4 => ?_)
    refine J_gI zd_H_flanks_28 zf_H_259 rfl (fun v5 => ?_)
    refine J_goto (tgt := 41) zd_H_flanks_31 rfl ?_
    exact J_iret zd_H_flanks_41 rfl (Nat.le_of_ble_eq_true rfl) (Nat.le_of_ble_eq_true rfl)
def f_H_flanks (a0 : Nat) (a1 : Int32) (μ : Mem) : Option (LV × Mem) := (if a1 = 0 then (b_H_flanks_16 a0 a1 μ) else (if a1 = 1 then (b_H_flanks_16 a0 a1 μ) else cV 9 a0 μ (bI (f_H_refuse a0 (-2) μ) (fun v7 μ6 => (some (.inl v7, μ6))))))
set_option maxRecDepth 20000 in
theorem c_H_flanks (E : EV) (a0 : Nat) (a1 : Int32) (μ : Mem) : Ct E I_H_flanks (rmk 14 0 0) [.inr a0, .inl a1] μ (f_H_flanks a0 a1 μ) := by
  refine Ct.of (k := 0) (by decide +kernel) rfl ?_
  show J E I_H_flanks (rmk 14 0 0) (QR E I_H_flanks (rmk 14 0 0)) 0 0 μ 0 [some (.inr a0), some (.inl a1)] [] (f_H_flanks a0 a1 μ)
  unfold f_H_flanks
  refine J_iload_n zd_H_flanks_0 rfl ?_
  refine J_if_eq (tgt := 16) zd_H_flanks_1 rfl ?_ ?_
  · refine J_wid (k := 0) (n := 0) (Nat.le_of_ble_eq_true rfl) (Nat.le_of_ble_eq_true rfl) ?_
    refine J_keep [true, true] rfl ?_
    exact j_H_flanks_16 E _ _ _
  · refine J_iload_n zd_H_flanks_4 rfl ?_
    refine J_iconst (v := 1) zd_H_flanks_5 (by decide) ?_
    refine J_icmp_eq (tgt := 16) zd_H_flanks_6 rfl ?_ ?_
    · refine J_wid (k := 0) (n := 0) (Nat.le_of_ble_eq_true rfl) (Nat.le_of_ble_eq_true rfl) ?_
      refine J_keep [true, true] rfl ?_
      exact j_H_flanks_16 E _ _ _
    · refine J_aload_n zd_H_flanks_9 rfl ?_
      refine J_bipush (v := (-2)) zd_H_flanks_10 (by decide) ?_
      refine J_callVi (ci := 9) (as := [.inl _]) zd_H_flanks_12 zm_H_refuse ⟨Nat.le_of_ble_eq_true rfl, Nat.le_of_ble_eq_true rfl⟩ zw_214 zw_216 zs_0 (by decide) rfl rfl (Nat.le_of_ble_eq_true rfl) ⟨Nat.le_of_ble_eq_true rfl, Nat.le_of_ble_eq_true rfl⟩ rfl rfl (c_H_refuse E _ _ _) (fun v7 μ6 => ?_)
      exact J_iret zd_H_flanks_15 rfl (Nat.le_of_ble_eq_true rfl) (Nat.le_of_ble_eq_true rfl)
def f_H_flank (a0 : Nat) (a1 : Int32) (μ : Mem) : Option (LV × Mem) := bI (f_H_isStation a1 μ) (fun v2 μ1 => (if v2 = 0 then cV 9 a0 μ1 (bI (f_H_refuse a0 (-1) μ1) (fun v8 μ7 => (some (.inl v8, μ7)))) else cV 9 a0 μ1 (bV (f_H_planFlanks a0 μ1) (fun μ3 => gR 9 a0 9 μ3 (fun r4 => gR 3 r4 0 μ3 (fun r5 => aI r5 a1 μ3 (fun v6 => (some (.inl v6, μ3)))))))))
set_option maxRecDepth 20000 in
theorem c_H_flank (E : EV) (a0 : Nat) (a1 : Int32) (μ : Mem) : Ct E I_H_flank (rmk 14 0 0) [.inr a0, .inl a1] μ (f_H_flank a0 a1 μ) := by
  refine Ct.of (k := 0) (by decide +kernel) rfl ?_
  show J E I_H_flank (rmk 14 0 0) (QR E I_H_flank (rmk 14 0 0)) 0 0 μ 0 [some (.inr a0), some (.inl a1)] [] (f_H_flank a0 a1 μ)
  unfold f_H_flank
  refine J_iload_n zd_H_flank_0 rfl ?_
  refine J_callSi (as := [.inl _]) zd_H_flank_1 zm_H_isStation ⟨Nat.le_of_ble_eq_true rfl, Nat.le_of_ble_eq_true rfl⟩ zw_211 zw_212 rfl (Nat.le_of_ble_eq_true rfl) ⟨Nat.le_of_ble_eq_true rfl, Nat.le_of_ble_eq_true rfl⟩ rfl rfl (c_H_isStation E _ _) (fun v2 μ1 => ?_)
  refine J_if_ne (tgt := 13) zd_H_flank_4 rfl ?_ ?_
  · refine J_aload_n zd_H_flank_13 rfl ?_
    refine J_callVv (ci := 9) (as := []) zd_H_flank_14 zm_H_planFlanks ⟨Nat.le_of_ble_eq_true rfl, Nat.le_of_ble_eq_true rfl⟩ zw_595 zw_597 zs_16 (by decide) rfl rfl (Nat.le_of_ble_eq_true rfl) ⟨Nat.le_of_ble_eq_true rfl, Nat.le_of_ble_eq_true rfl⟩ rfl rfl (c_H_planFlanks E _ _) (fun μ3 => ?_)
    refine J_aload_n zd_H_flank_17 rfl ?_
    refine J_gR zd_H_flank_18 zf_H_56 rfl (fun r4 => ?_)
    refine J_gR zd_H_flank_21 zf_H_265 rfl (fun r5 => ?_)
    refine J_iload_n zd_H_flank_24 rfl ?_
    refine J_aI zd_H_flank_25 (fun v6 => ?_)
    exact J_iret zd_H_flank_26 rfl (Nat.le_of_ble_eq_true rfl) (Nat.le_of_ble_eq_true rfl)
  · refine J_aload_n zd_H_flank_7 rfl ?_
    refine J_iconst (v := (-1)) zd_H_flank_8 (by decide) ?_
    refine J_callVi (ci := 9) (as := [.inl _]) zd_H_flank_9 zm_H_refuse ⟨Nat.le_of_ble_eq_true rfl, Nat.le_of_ble_eq_true rfl⟩ zw_214 zw_216 zs_0 (by decide) rfl rfl (Nat.le_of_ble_eq_true rfl) ⟨Nat.le_of_ble_eq_true rfl, Nat.le_of_ble_eq_true rfl⟩ rfl rfl (c_H_refuse E _ _ _) (fun v8 μ7 => ?_)
    exact J_iret zd_H_flank_12 rfl (Nat.le_of_ble_eq_true rfl) (Nat.le_of_ble_eq_true rfl)
def f_H_isBox (a0 : Int32) (μ : Mem) : Option (LV × Mem) := (if a0 < 0 then (some (.inl 0, μ)) else (if 12 ≤ a0 then (some (.inl 0, μ)) else (some (.inl 1, μ))))
set_option maxRecDepth 20000 in
theorem c_H_isBox (E : EV) (a0 : Int32) (μ : Mem) : Ct E I_H_isBox (rmk 1 0 0) [.inl a0] μ (f_H_isBox a0 μ) := by
  refine Ct.of (k := 0) (by decide +kernel) rfl ?_
  show J E I_H_isBox (rmk 1 0 0) (QR E I_H_isBox (rmk 1 0 0)) 0 0 μ 0 [some (.inl a0)] [] (f_H_isBox a0 μ)
  unfold f_H_isBox
  refine J_iload_n zd_H_isBox_0 rfl ?_
  refine J_if_lt (tgt := 14) zd_H_isBox_1 rfl ?_ ?_
  · refine J_iconst (v := 0) zd_H_isBox_14 (by decide) ?_
    exact J_zret zd_H_isBox_15 rfl rfl (Nat.le_of_ble_eq_true rfl) (Nat.le_of_ble_eq_true rfl)
  · refine J_iload_n zd_H_isBox_4 rfl ?_
    refine J_bipush (v := 12) zd_H_isBox_5 (by decide) ?_
    refine J_icmp_ge (tgt := 14) zd_H_isBox_7 rfl ?_ ?_
    · refine J_iconst (v := 0) zd_H_isBox_14 (by decide) ?_
      exact J_zret zd_H_isBox_15 rfl rfl (Nat.le_of_ble_eq_true rfl) (Nat.le_of_ble_eq_true rfl)
    · refine J_iconst (v := 1) zd_H_isBox_10 (by decide) ?_
      refine J_goto (tgt := 15) zd_H_isBox_11 rfl ?_
      exact J_zret zd_H_isBox_15 rfl rfl (Nat.le_of_ble_eq_true rfl) (Nat.le_of_ble_eq_true rfl)
def f_H_box (a0 : Nat) (a1 : Int32) (a2 : Int32) (μ : Mem) : Option (LV × Mem) := bI (f_H_isBox a1 μ) (fun v2 μ1 => (if v2 = 0 then cV 9 a0 μ1 (bI (f_H_refuse a0 (-1) μ1) (fun v14 μ13 => (some (.inl v14, μ13)))) else bI (f_H_outside a2 0 9999 μ1) (fun v4 μ3 => (if v4 = 0 then gR 9 a0 10 μ3 (fun r5 => gR 7 r5 0 μ3 (fun r6 => aI r6 a1 μ3 (fun v7 => gR 9 a0 10 μ3 (fun r8 => gR 7 r8 0 μ3 (fun r9 => aS r9 a1 a2 μ3 (fun μ10 => (some (.inl v7, μ10)))))))) else cV 9 a0 μ3 (bI (f_H_refuse a0 v4 μ3) (fun v12 μ11 => (some (.inl v12, μ11))))))))
set_option maxRecDepth 20000 in
theorem c_H_box (E : EV) (a0 : Nat) (a1 : Int32) (a2 : Int32) (μ : Mem) : Ct E I_H_box (rmk 2 0 0) [.inr a0, .inl a1, .inl a2] μ (f_H_box a0 a1 a2 μ) := by
  refine Ct.of (k := 2) (by decide +kernel) rfl ?_
  show J E I_H_box (rmk 2 0 0) (QR E I_H_box (rmk 2 0 0)) 0 0 μ 0 [some (.inr a0), some (.inl a1), some (.inl a2), none, none] [] (f_H_box a0 a1 a2 μ)
  unfold f_H_box
  refine J_iload_n zd_H_box_0 rfl ?_
  refine J_callSi (as := [.inl _]) zd_H_box_1 zm_H_isBox ⟨Nat.le_of_ble_eq_true rfl, Nat.le_of_ble_eq_true rfl⟩ zw_625 zw_626 rfl (Nat.le_of_ble_eq_true rfl) ⟨Nat.le_of_ble_eq_true rfl, Nat.le_of_ble_eq_true rfl⟩ rfl rfl (c_H_isBox E _ _) (fun v2 μ1 => ?_)
  refine J_if_ne (tgt := 13) zd_H_box_4 rfl ?_ ?_
  · refine J_iload_n zd_H_box_13 rfl ?_
    refine J_iconst (v := 0) zd_H_box_14 (by decide) ?_
    refine J_sipush (v := 9999) zd_H_box_15 (by decide) ?_
    refine J_callSi (as := [.inl _, .inl _, .inl _]) zd_H_box_18 zm_H_outside ⟨Nat.le_of_ble_eq_true rfl, Nat.le_of_ble_eq_true rfl⟩ zw_218 zw_219 rfl (Nat.le_of_ble_eq_true rfl) ⟨Nat.le_of_ble_eq_true rfl, Nat.le_of_ble_eq_true rfl⟩ rfl rfl (c_H_outside E _ _ _ _) (fun v4 μ3 => ?_)
    refine J_istore_n (lv' := [some _, some _, some _, some _, none]) zd_H_box_21 (Nat.le_of_ble_eq_true rfl) rfl ?_
    refine J_iload_n zd_H_box_22 rfl ?_
    refine J_if_eq (tgt := 32) zd_H_box_23 rfl ?_ ?_
    · refine J_aload_n zd_H_box_32 rfl ?_
      refine J_gR zd_H_box_33 zf_H_63 rfl (fun r5 => ?_)
      refine J_gR zd_H_box_36 zf_H_277 rfl (fun r6 => ?_)
      refine J_iload_n zd_H_box_39 rfl ?_
      refine J_aI zd_H_box_40 (fun v7 => ?_)
      refine J_istore (lv' := [some _, some _, some _, some _, some _]) zd_H_box_41 (Nat.le_of_ble_eq_true rfl) rfl ?_
      refine J_aload_n zd_H_box_43 rfl ?_
      refine J_gR zd_H_box_44 zf_H_63 rfl (fun r8 => ?_)
      refine J_gR zd_H_box_47 zf_H_277 rfl (fun r9 => ?_)
      refine J_iload_n zd_H_box_50 rfl ?_
      refine J_iload_n zd_H_box_51 rfl ?_
      refine J_aS zd_H_box_52 (fun μ10 => ?_)
      refine J_iload zd_H_box_53 rfl ?_
      exact J_iret zd_H_box_55 rfl (Nat.le_of_ble_eq_true rfl) (Nat.le_of_ble_eq_true rfl)
    · refine J_aload_n zd_H_box_26 rfl ?_
      refine J_iload_n zd_H_box_27 rfl ?_
      refine J_callVi (ci := 9) (as := [.inl _]) zd_H_box_28 zm_H_refuse ⟨Nat.le_of_ble_eq_true rfl, Nat.le_of_ble_eq_true rfl⟩ zw_214 zw_216 zs_0 (by decide) rfl rfl (Nat.le_of_ble_eq_true rfl) ⟨Nat.le_of_ble_eq_true rfl, Nat.le_of_ble_eq_true rfl⟩ rfl rfl (c_H_refuse E _ _ _) (fun v12 μ11 => ?_)
      exact J_iret zd_H_box_31 rfl (Nat.le_of_ble_eq_true rfl) (Nat.le_of_ble_eq_true rfl)
  · refine J_aload_n zd_H_box_7 rfl ?_
    refine J_iconst (v := (-1)) zd_H_box_8 (by decide) ?_
    refine J_callVi (ci := 9) (as := [.inl _]) zd_H_box_9 zm_H_refuse ⟨Nat.le_of_ble_eq_true rfl, Nat.le_of_ble_eq_true rfl⟩ zw_214 zw_216 zs_0 (by decide) rfl rfl (Nat.le_of_ble_eq_true rfl) ⟨Nat.le_of_ble_eq_true rfl, Nat.le_of_ble_eq_true rfl⟩ rfl rfl (c_H_refuse E _ _ _) (fun v14 μ13 => ?_)
    exact J_iret zd_H_box_12 rfl (Nat.le_of_ble_eq_true rfl) (Nat.le_of_ble_eq_true rfl)
def f_H_look (a0 : Nat) (a1 : Int32) (a2 : Int32) (μ : Mem) : Option (LV × Mem) := bI (f_H_isBox a1 μ) (fun v2 μ1 => (if v2 = 0 then cV 9 a0 μ1 (bI (f_H_refuse a0 (-1) μ1) (fun v19 μ18 => (some (.inl v19, μ18)))) else bI (f_H_outside a2 0 9 μ1) (fun v4 μ3 => (if v4 = 0 then gR 9 a0 10 μ3 (fun r5 => gR 7 r5 0 μ3 (fun r6 => gR 9 a0 10 μ3 (fun r7 => gR 7 r7 0 μ3 (fun r8 => aI r8 a1 μ3 (fun v9 => bI (f_S_leftOf v9 a2 μ3) (fun v11 μ10 => aS r6 a1 v11 μ10 (fun μ12 => gR 9 a0 10 μ12 (fun r13 => gR 7 r13 0 μ12 (fun r14 => aI r14 a1 μ12 (fun v15 => (some (.inl v15, μ12)))))))))))) else cV 9 a0 μ3 (bI (f_H_refuse a0 v4 μ3) (fun v17 μ16 => (some (.inl v17, μ16))))))))
set_option maxRecDepth 20000 in
theorem c_H_look (E : EV) (a0 : Nat) (a1 : Int32) (a2 : Int32) (μ : Mem) : Ct E I_H_look (rmk 2 0 0) [.inr a0, .inl a1, .inl a2] μ (f_H_look a0 a1 a2 μ) := by
  refine Ct.of (k := 1) (by decide +kernel) rfl ?_
  show J E I_H_look (rmk 2 0 0) (QR E I_H_look (rmk 2 0 0)) 0 0 μ 0 [some (.inr a0), some (.inl a1), some (.inl a2), none] [] (f_H_look a0 a1 a2 μ)
  unfold f_H_look
  refine J_iload_n zd_H_look_0 rfl ?_
  refine J_callSi (as := [.inl _]) zd_H_look_1 zm_H_isBox ⟨Nat.le_of_ble_eq_true rfl, Nat.le_of_ble_eq_true rfl⟩ zw_625 zw_626 rfl (Nat.le_of_ble_eq_true rfl) ⟨Nat.le_of_ble_eq_true rfl, Nat.le_of_ble_eq_true rfl⟩ rfl rfl (c_H_isBox E _ _) (fun v2 μ1 => ?_)
  refine J_if_ne (tgt := 13) zd_H_look_4 rfl ?_ ?_
  · refine J_iload_n zd_H_look_13 rfl ?_
    refine J_iconst (v := 0) zd_H_look_14 (by decide) ?_
    refine J_bipush (v := 9) zd_H_look_15 (by decide) ?_
    refine J_callSi (as := [.inl _, .inl _, .inl _]) zd_H_look_17 zm_H_outside ⟨Nat.le_of_ble_eq_true rfl, Nat.le_of_ble_eq_true rfl⟩ zw_218 zw_219 rfl (Nat.le_of_ble_eq_true rfl) ⟨Nat.le_of_ble_eq_true rfl, Nat.le_of_ble_eq_true rfl⟩ rfl rfl (c_H_outside E _ _ _ _) (fun v4 μ3 => ?_)
    refine J_istore_n (lv' := [some _, some _, some _, some _]) zd_H_look_20 (Nat.le_of_ble_eq_true rfl) rfl ?_
    refine J_iload_n zd_H_look_21 rfl ?_
    refine J_if_eq (tgt := 31) zd_H_look_22 rfl ?_ ?_
    · refine J_aload_n zd_H_look_31 rfl ?_
      refine J_gR zd_H_look_32 zf_H_63 rfl (fun r5 => ?_)
      refine J_gR zd_H_look_35 zf_H_277 rfl (fun r6 => ?_)
      refine J_iload_n zd_H_look_38 rfl ?_
      refine J_aload_n zd_H_look_39 rfl ?_
      refine J_gR zd_H_look_40 zf_H_63 rfl (fun r7 => ?_)
      refine J_gR zd_H_look_43 zf_H_277 rfl (fun r8 => ?_)
      refine J_iload_n zd_H_look_46 rfl ?_
      refine J_aI zd_H_look_47 (fun v9 => ?_)
      refine J_iload_n zd_H_look_48 rfl ?_
      refine J_callSi (as := [.inl _, .inl _]) zd_H_look_49 zm_S_leftOf ⟨Nat.le_of_ble_eq_true rfl, Nat.le_of_ble_eq_true rfl⟩ zw_632 zw_633 rfl (Nat.le_of_ble_eq_true rfl) ⟨Nat.le_of_ble_eq_true rfl, Nat.le_of_ble_eq_true rfl⟩ rfl rfl (c_S_leftOf E _ _ _) (fun v11 μ10 => ?_)
      refine J_aS zd_H_look_52 (fun μ12 => ?_)
      refine J_aload_n zd_H_look_53 rfl ?_
      refine J_gR zd_H_look_54 zf_H_63 rfl (fun r13 => ?_)
      refine J_gR zd_H_look_57 zf_H_277 rfl (fun r14 => ?_)
      refine J_iload_n zd_H_look_60 rfl ?_
      refine J_aI zd_H_look_61 (fun v15 => ?_)
      exact J_iret zd_H_look_62 rfl (Nat.le_of_ble_eq_true rfl) (Nat.le_of_ble_eq_true rfl)
    · refine J_aload_n zd_H_look_25 rfl ?_
      refine J_iload_n zd_H_look_26 rfl ?_
      refine J_callVi (ci := 9) (as := [.inl _]) zd_H_look_27 zm_H_refuse ⟨Nat.le_of_ble_eq_true rfl, Nat.le_of_ble_eq_true rfl⟩ zw_214 zw_216 zs_0 (by decide) rfl rfl (Nat.le_of_ble_eq_true rfl) ⟨Nat.le_of_ble_eq_true rfl, Nat.le_of_ble_eq_true rfl⟩ rfl rfl (c_H_refuse E _ _ _) (fun v17 μ16 => ?_)
      exact J_iret zd_H_look_30 rfl (Nat.le_of_ble_eq_true rfl) (Nat.le_of_ble_eq_true rfl)
  · refine J_aload_n zd_H_look_7 rfl ?_
    refine J_iconst (v := (-1)) zd_H_look_8 (by decide) ?_
    refine J_callVi (ci := 9) (as := [.inl _]) zd_H_look_9 zm_H_refuse ⟨Nat.le_of_ble_eq_true rfl, Nat.le_of_ble_eq_true rfl⟩ zw_214 zw_216 zs_0 (by decide) rfl rfl (Nat.le_of_ble_eq_true rfl) ⟨Nat.le_of_ble_eq_true rfl, Nat.le_of_ble_eq_true rfl⟩ rfl rfl (c_H_refuse E _ _ _) (fun v19 μ18 => ?_)
    exact J_iret zd_H_look_12 rfl (Nat.le_of_ble_eq_true rfl) (Nat.le_of_ble_eq_true rfl)
def b_H_wrongLooks_24    (μ : Mem) : Option (LV × Mem) := (some (.inl (-6), μ))
set_option maxRecDepth 20000 in
theorem j_H_wrongLooks_24 (E : EV)   (μ : Mem)  : J E I_H_wrongLooks (rmk 1 0 0) (QR E I_H_wrongLooks (rmk 1 0 0)) 0 0 μ 24 [none, none] [] (b_H_wrongLooks_24 μ) := by
  unfold b_H_wrongLooks_24
  refine J_bipush (v := (-6)) zd_H_wrongLooks_24 (by decide) ?_
  refine J_goto (tgt := 30) zd_H_wrongLooks_26 rfl ?_
  exact J_iret zd_H_wrongLooks_30 rfl (Nat.le_of_ble_eq_true rfl) (Nat.le_of_ble_eq_true rfl)
def f_H_wrongLooks (a0 : Int32) (a1 : Int32) (μ : Mem) : Option (LV × Mem) := (if a0 < 1 then (some (.inl (-4), μ)) else (if 0 ≤ a1 then (if 20 < a0 then (b_H_wrongLooks_24 μ) else (if a1 ≤ 9 then (some (.inl 0, μ)) else (b_H_wrongLooks_24 μ))) else (some (.inl (-4), μ))))
set_option maxRecDepth 20000 in
theorem c_H_wrongLooks (E : EV) (a0 : Int32) (a1 : Int32) (μ : Mem) : Ct E I_H_wrongLooks (rmk 1 0 0) [.inl a0, .inl a1] μ (f_H_wrongLooks a0 a1 μ) := by
  refine Ct.of (k := 0) (by decide +kernel) rfl ?_
  show J E I_H_wrongLooks (rmk 1 0 0) (QR E I_H_wrongLooks (rmk 1 0 0)) 0 0 μ 0 [some (.inl a0), some (.inl a1)] [] (f_H_wrongLooks a0 a1 μ)
  unfold f_H_wrongLooks
  refine J_iload_n zd_H_wrongLooks_0 rfl ?_
  refine J_iconst (v := 1) zd_H_wrongLooks_1 (by decide) ?_
  refine J_icmp_lt (tgt := 9) zd_H_wrongLooks_2 rfl ?_ ?_
  · refine J_bipush (v := (-4)) zd_H_wrongLooks_9 (by decide) ?_
    exact J_iret zd_H_wrongLooks_11 rfl (Nat.le_of_ble_eq_true rfl) (Nat.le_of_ble_eq_true rfl)
  · refine J_iload_n zd_H_wrongLooks_5 rfl ?_
    refine J_if_ge (tgt := 12) zd_H_wrongLooks_6 rfl ?_ ?_
    · refine J_iload_n zd_H_wrongLooks_12 rfl ?_
      refine J_bipush (v := 20) zd_H_wrongLooks_13 (by decide) ?_
      refine J_icmp_gt (tgt := 24) zd_H_wrongLooks_15 rfl ?_ ?_
      · refine J_wid (k := 0) (n := 0) (Nat.le_of_ble_eq_true rfl) (Nat.le_of_ble_eq_true rfl) ?_
        refine J_keep [false, false] rfl ?_
        exact j_H_wrongLooks_24 E _
      · refine J_iload_n zd_H_wrongLooks_18 rfl ?_
        refine J_bipush (v := 9) zd_H_wrongLooks_19 (by decide) ?_
        refine J_icmp_le (tgt := 29) zd_H_wrongLooks_21 rfl ?_ ?_
        · refine J_iconst (v := 0) zd_H_wrongLooks_29 (by decide) ?_
          exact J_iret zd_H_wrongLooks_30 rfl (Nat.le_of_ble_eq_true rfl) (Nat.le_of_ble_eq_true rfl)
        · refine J_wid (k := 0) (n := 0) (Nat.le_of_ble_eq_true rfl) (Nat.le_of_ble_eq_true rfl) ?_
          refine J_keep [false, false] rfl ?_
          exact j_H_wrongLooks_24 E _
    · refine J_bipush (v := (-4)) zd_H_wrongLooks_9 (by decide) ?_
      exact J_iret zd_H_wrongLooks_11 rfl (Nat.le_of_ble_eq_true rfl) (Nat.le_of_ble_eq_true rfl)
def f_H_looks (a0 : Nat) (a1 : Int32) (a2 : Int32) (μ : Mem) : Option (LV × Mem) := bI (f_H_wrongLooks a1 a2 μ) (fun v2 μ1 => (if v2 = 0 then gR 9 a0 10 μ1 (fun r3 => cV 7 r3 μ1 (bV (f_S_plan r3 a1 a2 μ1) (fun μ4 => gR 9 a0 10 μ4 (fun r5 => gI 7 r5 2 μ4 (fun v6 => (some (.inl v6, μ4))))))) else cV 9 a0 μ1 (bI (f_H_refuse a0 v2 μ1) (fun v8 μ7 => (some (.inl v8, μ7))))))
set_option maxRecDepth 20000 in
theorem c_H_looks (E : EV) (a0 : Nat) (a1 : Int32) (a2 : Int32) (μ : Mem) : Ct E I_H_looks (rmk 4 0 0) [.inr a0, .inl a1, .inl a2] μ (f_H_looks a0 a1 a2 μ) := by
  refine Ct.of (k := 1) (by decide +kernel) rfl ?_
  show J E I_H_looks (rmk 4 0 0) (QR E I_H_looks (rmk 4 0 0)) 0 0 μ 0 [some (.inr a0), some (.inl a1), some (.inl a2), none] [] (f_H_looks a0 a1 a2 μ)
  unfold f_H_looks
  refine J_iload_n zd_H_looks_0 rfl ?_
  refine J_iload_n zd_H_looks_1 rfl ?_
  refine J_callSi (as := [.inl _, .inl _]) zd_H_looks_2 zm_H_wrongLooks ⟨Nat.le_of_ble_eq_true rfl, Nat.le_of_ble_eq_true rfl⟩ zw_639 zw_640 rfl (Nat.le_of_ble_eq_true rfl) ⟨Nat.le_of_ble_eq_true rfl, Nat.le_of_ble_eq_true rfl⟩ rfl rfl (c_H_wrongLooks E _ _ _) (fun v2 μ1 => ?_)
  refine J_istore_n (lv' := [some _, some _, some _, some _]) zd_H_looks_5 (Nat.le_of_ble_eq_true rfl) rfl ?_
  refine J_iload_n zd_H_looks_6 rfl ?_
  refine J_if_eq (tgt := 16) zd_H_looks_7 rfl ?_ ?_
  · refine J_aload_n zd_H_looks_16 rfl ?_
    refine J_gR zd_H_looks_17 zf_H_63 rfl (fun r3 => ?_)
    refine J_iload_n zd_H_looks_20 rfl ?_
    refine J_iload_n zd_H_looks_21 rfl ?_
    refine J_callVv (ci := 7) (as := [.inl _, .inl _]) zd_H_looks_22 zm_S_plan ⟨Nat.le_of_ble_eq_true rfl, Nat.le_of_ble_eq_true rfl⟩ zw_642 zw_643 zw_644 (by decide) rfl rfl (Nat.le_of_ble_eq_true rfl) ⟨Nat.le_of_ble_eq_true rfl, Nat.le_of_ble_eq_true rfl⟩ rfl rfl (c_S_plan E _ _ _ _) (fun μ4 => ?_)
    refine J_aload_n zd_H_looks_25 rfl ?_
    refine J_gR zd_H_looks_26 zf_H_63 rfl (fun r5 => ?_)
    refine J_gI zd_H_looks_29 zf_H_289 rfl (fun v6 => ?_)
    exact J_iret zd_H_looks_32 rfl (Nat.le_of_ble_eq_true rfl) (Nat.le_of_ble_eq_true rfl)
  · refine J_aload_n zd_H_looks_10 rfl ?_
    refine J_iload_n zd_H_looks_11 rfl ?_
    refine J_callVi (ci := 9) (as := [.inl _]) zd_H_looks_12 zm_H_refuse ⟨Nat.le_of_ble_eq_true rfl, Nat.le_of_ble_eq_true rfl⟩ zw_214 zw_216 zs_0 (by decide) rfl rfl (Nat.le_of_ble_eq_true rfl) ⟨Nat.le_of_ble_eq_true rfl, Nat.le_of_ble_eq_true rfl⟩ rfl rfl (c_H_refuse E _ _ _) (fun v8 μ7 => ?_)
    exact J_iret zd_H_looks_15 rfl (Nat.le_of_ble_eq_true rfl) (Nat.le_of_ble_eq_true rfl)
def f_H_lookAt (a0 : Nat) (a1 : Int32) (a2 : Int32) (a3 : Int32) (μ : Mem) : Option (LV × Mem) := bI (f_H_wrongLooks a1 a2 μ) (fun v2 μ1 => (if v2 = 0 then (if a3 < 0 then (some (.inl (-9), μ1)) else (if a3 < a1 then gR 9 a0 10 μ1 (fun r3 => cV 7 r3 μ1 (bV (f_S_plan r3 a1 a2 μ1) (fun μ4 => gR 9 a0 10 μ4 (fun r5 => gR 7 r5 1 μ4 (fun r6 => aI r6 a3 μ4 (fun v7 => (some (.inl v7, μ4)))))))) else (some (.inl (-9), μ1)))) else cV 9 a0 μ1 (bI (f_H_refuse a0 v2 μ1) (fun v9 μ8 => (some (.inl v9, μ8))))))
set_option maxRecDepth 20000 in
theorem c_H_lookAt (E : EV) (a0 : Nat) (a1 : Int32) (a2 : Int32) (a3 : Int32) (μ : Mem) : Ct E I_H_lookAt (rmk 4 0 0) [.inr a0, .inl a1, .inl a2, .inl a3] μ (f_H_lookAt a0 a1 a2 a3 μ) := by
  refine Ct.of (k := 1) (by decide +kernel) rfl ?_
  show J E I_H_lookAt (rmk 4 0 0) (QR E I_H_lookAt (rmk 4 0 0)) 0 0 μ 0 [some (.inr a0), some (.inl a1), some (.inl a2), some (.inl a3), none] [] (f_H_lookAt a0 a1 a2 a3 μ)
  unfold f_H_lookAt
  refine J_iload_n zd_H_lookAt_0 rfl ?_
  refine J_iload_n zd_H_lookAt_1 rfl ?_
  refine J_callSi (as := [.inl _, .inl _]) zd_H_lookAt_2 zm_H_wrongLooks ⟨Nat.le_of_ble_eq_true rfl, Nat.le_of_ble_eq_true rfl⟩ zw_639 zw_640 rfl (Nat.le_of_ble_eq_true rfl) ⟨Nat.le_of_ble_eq_true rfl, Nat.le_of_ble_eq_true rfl⟩ rfl rfl (c_H_wrongLooks E _ _ _) (fun v2 μ1 => ?_)
  refine J_istore (lv' := [some _, some _, some _, some _, some _]) zd_H_lookAt_5 (Nat.le_of_ble_eq_true rfl) rfl ?_
  refine J_iload zd_H_lookAt_7 rfl ?_
  refine J_if_eq (tgt := 19) zd_H_lookAt_9 rfl ?_ ?_
  · refine J_iload_n zd_H_lookAt_19 rfl ?_
    refine J_if_lt (tgt := 28) zd_H_lookAt_20 rfl ?_ ?_
    · refine J_bipush (v := (-9)) zd_H_lookAt_28 (by decide) ?_
      exact J_iret zd_H_lookAt_30 rfl (Nat.le_of_ble_eq_true rfl) (Nat.le_of_ble_eq_true rfl)
    · refine J_iload_n zd_H_lookAt_23 rfl ?_
      refine J_iload_n zd_H_lookAt_24 rfl ?_
      refine J_icmp_lt (tgt := 31) zd_H_lookAt_25 rfl ?_ ?_
      · refine J_aload_n zd_H_lookAt_31 rfl ?_
        refine J_gR zd_H_lookAt_32 zf_H_63 rfl (fun r3 => ?_)
        refine J_iload_n zd_H_lookAt_35 rfl ?_
        refine J_iload_n zd_H_lookAt_36 rfl ?_
        refine J_callVv (ci := 7) (as := [.inl _, .inl _]) zd_H_lookAt_37 zm_S_plan ⟨Nat.le_of_ble_eq_true rfl, Nat.le_of_ble_eq_true rfl⟩ zw_642 zw_643 zw_644 (by decide) rfl rfl (Nat.le_of_ble_eq_true rfl) ⟨Nat.le_of_ble_eq_true rfl, Nat.le_of_ble_eq_true rfl⟩ rfl rfl (c_S_plan E _ _ _ _) (fun μ4 => ?_)
        refine J_aload_n zd_H_lookAt_40 rfl ?_
        refine J_gR zd_H_lookAt_41 zf_H_63 rfl (fun r5 => ?_)
        refine J_gR zd_H_lookAt_44 zf_H_292 rfl (fun r6 => ?_)
        refine J_iload_n zd_H_lookAt_47 rfl ?_
        refine J_aI zd_H_lookAt_48 (fun v7 => ?_)
        exact J_iret zd_H_lookAt_49 rfl (Nat.le_of_ble_eq_true rfl) (Nat.le_of_ble_eq_true rfl)
      · refine J_bipush (v := (-9)) zd_H_lookAt_28 (by decide) ?_
        exact J_iret zd_H_lookAt_30 rfl (Nat.le_of_ble_eq_true rfl) (Nat.le_of_ble_eq_true rfl)
  · refine J_aload_n zd_H_lookAt_12 rfl ?_
    refine J_iload zd_H_lookAt_13 rfl ?_
    refine J_callVi (ci := 9) (as := [.inl _]) zd_H_lookAt_15 zm_H_refuse ⟨Nat.le_of_ble_eq_true rfl, Nat.le_of_ble_eq_true rfl⟩ zw_214 zw_216 zs_0 (by decide) rfl rfl (Nat.le_of_ble_eq_true rfl) ⟨Nat.le_of_ble_eq_true rfl, Nat.le_of_ble_eq_true rfl⟩ rfl rfl (c_H_refuse E _ _ _) (fun v9 μ8 => ?_)
    exact J_iret zd_H_lookAt_18 rfl (Nat.le_of_ble_eq_true rfl) (Nat.le_of_ble_eq_true rfl)
def f_H_rest (a0 : Nat) (a1 : Int32) (a2 : Int32) (μ : Mem) : Option (LV × Mem) := cV 9 a0 μ (bR (f_H_personAt a0 a1 μ) (fun r2 μ1 => (if r2 = 0 then cV 9 a0 μ1 (bI (f_H_refuse a0 (-1) μ1) (fun v11 μ10 => (some (.inl v11, μ10)))) else gI 9 a0 12 μ1 (fun v3 => bI (f_H_outside a2 v3 200000 μ1) (fun v5 μ4 => (if v5 = 0 then gI 6 r2 5 μ4 (fun v6 => pI 6 r2 5 a2 μ4 (fun μ7 => (some (.inl v6, μ7)))) else cV 9 a0 μ4 (bI (f_H_refuse a0 v5 μ4) (fun v9 μ8 => (some (.inl v9, μ8))))))))))
set_option maxRecDepth 20000 in
theorem c_H_rest (E : EV) (a0 : Nat) (a1 : Int32) (a2 : Int32) (μ : Mem) : Ct E I_H_rest (rmk 5 0 0) [.inr a0, .inl a1, .inl a2] μ (f_H_rest a0 a1 a2 μ) := by
  refine Ct.of (k := 3) (by decide +kernel) rfl ?_
  show J E I_H_rest (rmk 5 0 0) (QR E I_H_rest (rmk 5 0 0)) 0 0 μ 0 [some (.inr a0), some (.inl a1), some (.inl a2), none, none, none] [] (f_H_rest a0 a1 a2 μ)
  unfold f_H_rest
  refine J_aload_n zd_H_rest_0 rfl ?_
  refine J_iload_n zd_H_rest_1 rfl ?_
  refine J_callVr (ci := 9) (as := [.inl _]) zd_H_rest_2 zm_H_personAt ⟨Nat.le_of_ble_eq_true rfl, Nat.le_of_ble_eq_true rfl⟩ zw_323 zw_325 zs_4 (by decide) rfl rfl (Nat.le_of_ble_eq_true rfl) ⟨Nat.le_of_ble_eq_true rfl, Nat.le_of_ble_eq_true rfl⟩ rfl rfl (c_H_personAt E _ _ _) (fun r2 μ1 => ?_)
  refine J_astore_n (lv' := [some _, some _, some _, some _, none, none]) zd_H_rest_5 (Nat.le_of_ble_eq_true rfl) rfl ?_
  refine J_aload_n zd_H_rest_6 rfl ?_
  refine J_ifnonnull (tgt := 16) zd_H_rest_7 rfl ?_ ?_
  · refine J_iload_n zd_H_rest_16 rfl ?_
    refine J_aload_n zd_H_rest_17 rfl ?_
    refine J_gI zd_H_rest_18 zf_H_70 rfl (fun v3 => ?_)
    refine J_ldc zd_H_rest_21 zw_427 ?_
    refine J_callSi (as := [.inl _, .inl _, .inl _]) zd_H_rest_23 zm_H_outside ⟨Nat.le_of_ble_eq_true rfl, Nat.le_of_ble_eq_true rfl⟩ zw_218 zw_219 rfl (Nat.le_of_ble_eq_true rfl) ⟨Nat.le_of_ble_eq_true rfl, Nat.le_of_ble_eq_true rfl⟩ rfl rfl (c_H_outside E _ _ _ _) (fun v5 μ4 => ?_)
    refine J_istore (lv' := [some _, some _, some _, some _, some _, none]) zd_H_rest_26 (Nat.le_of_ble_eq_true rfl) rfl ?_
    refine J_iload zd_H_rest_28 rfl ?_
    refine J_if_eq (tgt := 40) zd_H_rest_30 rfl ?_ ?_
    · refine J_aload_n zd_H_rest_40 rfl ?_
      refine J_gI zd_H_rest_41 zf_H_295 rfl (fun v6 => ?_)
      refine J_istore (lv' := [some _, some _, some _, some _, some _, some _]) zd_H_rest_44 (Nat.le_of_ble_eq_true rfl) rfl ?_
      refine J_aload_n zd_H_rest_46 rfl ?_
      refine J_iload_n zd_H_rest_47 rfl ?_
      refine J_pI zd_H_rest_48 zf_H_295 ⟨zt_Q, zn_Q, Or.inl rfl⟩ rfl rfl (fun μ7 => ?_)
      refine J_iload zd_H_rest_51 rfl ?_
      exact J_iret zd_H_rest_53 rfl (Nat.le_of_ble_eq_true rfl) (Nat.le_of_ble_eq_true rfl)
    · refine J_aload_n zd_H_rest_33 rfl ?_
      refine J_iload zd_H_rest_34 rfl ?_
      refine J_callVi (ci := 9) (as := [.inl _]) zd_H_rest_36 zm_H_refuse ⟨Nat.le_of_ble_eq_true rfl, Nat.le_of_ble_eq_true rfl⟩ zw_214 zw_216 zs_0 (by decide) rfl rfl (Nat.le_of_ble_eq_true rfl) ⟨Nat.le_of_ble_eq_true rfl, Nat.le_of_ble_eq_true rfl⟩ rfl rfl (c_H_refuse E _ _ _) (fun v9 μ8 => ?_)
      exact J_iret zd_H_rest_39 rfl (Nat.le_of_ble_eq_true rfl) (Nat.le_of_ble_eq_true rfl)
  · refine J_aload_n zd_H_rest_10 rfl ?_
    refine J_iconst (v := (-1)) zd_H_rest_11 (by decide) ?_
    refine J_callVi (ci := 9) (as := [.inl _]) zd_H_rest_12 zm_H_refuse ⟨Nat.le_of_ble_eq_true rfl, Nat.le_of_ble_eq_true rfl⟩ zw_214 zw_216 zs_0 (by decide) rfl rfl (Nat.le_of_ble_eq_true rfl) ⟨Nat.le_of_ble_eq_true rfl, Nat.le_of_ble_eq_true rfl⟩ rfl rfl (c_H_refuse E _ _ _) (fun v11 μ10 => ?_)
    exact J_iret zd_H_rest_15 rfl (Nat.le_of_ble_eq_true rfl) (Nat.le_of_ble_eq_true rfl)
def b_H_placeInTurn_91 (c17 : Int32 → Int32 → Mem → Option (LV × Mem)) (a0 : Nat) (a1 : Int32) (a2 : Nat) (a3 : Int32) (a4 : Int32)  (μ : Mem) : Option (LV × Mem) := (c17 a3 (a4 + 1) μ)
set_option maxRecDepth 20000 in
theorem j_H_placeInTurn_91 (E : EV) (a0 : Nat) (a1 : Int32) (a2 : Nat) (a3 : Int32) (a4 : Int32)  (μ : Mem) {c17 : Int32 → Int32 → Mem → Option (LV × Mem)} (h17 : ∀ (b3 : Int32) (b4 : Int32)  (μ : Mem), J E I_H_placeInTurn (rmk 4 0 0) (QR E I_H_placeInTurn (rmk 4 0 0)) 0 0 μ 17 [some (.inr a0), some (.inl a1), some (.inr a2), some (.inl b3), some (.inl b4), none] [] (c17 b3 b4 μ)) : J E I_H_placeInTurn (rmk 4 0 0) (QR E I_H_placeInTurn (rmk 4 0 0)) 0 0 μ 91 [some (.inr a0), some (.inl a1), some (.inr a2), some (.inl a3), some (.inl a4), none] [] (b_H_placeInTurn_91 c17 a0 a1 a2 a3 a4 μ) := by
  unfold b_H_placeInTurn_91
  refine J_iinc (v := _ + 1) (lv' := [some _, some _, some _, some _, some _, none]) zd_H_placeInTurn_91 (Nat.le_of_ble_eq_true rfl) rfl (by rfl) rfl ?_
  refine J_goto (tgt := 17) zd_H_placeInTurn_94 rfl ?_
  refine J_wid (k := 0) (n := 0) (Nat.le_of_ble_eq_true rfl) (Nat.le_of_ble_eq_true rfl) ?_
  refine J_keep [true, true, true, true, true, false] rfl ?_
  exact h17 _ _ _
def b_H_placeInTurn_88 (c17 : Int32 → Int32 → Mem → Option (LV × Mem)) (a0 : Nat) (a1 : Int32) (a2 : Nat) (a3 : Int32) (a4 : Int32)  (μ : Mem) : Option (LV × Mem) := (b_H_placeInTurn_91 c17 a0 a1 a2 (a3 + 1) a4 μ)
set_option maxRecDepth 20000 in
theorem j_H_placeInTurn_88 (E : EV) (a0 : Nat) (a1 : Int32) (a2 : Nat) (a3 : Int32) (a4 : Int32)  (μ : Mem) {c17 : Int32 → Int32 → Mem → Option (LV × Mem)} (h17 : ∀ (b3 : Int32) (b4 : Int32)  (μ : Mem), J E I_H_placeInTurn (rmk 4 0 0) (QR E I_H_placeInTurn (rmk 4 0 0)) 0 0 μ 17 [some (.inr a0), some (.inl a1), some (.inr a2), some (.inl b3), some (.inl b4), none] [] (c17 b3 b4 μ)) : J E I_H_placeInTurn (rmk 4 0 0) (QR E I_H_placeInTurn (rmk 4 0 0)) 0 0 μ 88 [some (.inr a0), some (.inl a1), some (.inr a2), some (.inl a3), some (.inl a4), none] [] (b_H_placeInTurn_88 c17 a0 a1 a2 a3 a4 μ) := by
  unfold b_H_placeInTurn_88
  refine J_iinc (v := _ + 1) (lv' := [some _, some _, some _, some _, some _, none]) zd_H_placeInTurn_88 (Nat.le_of_ble_eq_true rfl) rfl (by rfl) rfl ?_
  refine J_wid (k := 0) (n := 0) (Nat.le_of_ble_eq_true rfl) (Nat.le_of_ble_eq_true rfl) ?_
  refine J_keep [true, true, true, true, true, false] rfl ?_
  exact j_H_placeInTurn_91 E _ _ _ _ _ _ h17
def k_H_placeInTurn_17  (a0 : Nat) (a1 : Int32) (a2 : Nat) : Nat → Int32 → Int32 → Mem → Option (LV × Mem)
  | 0, _, _, _ => none
  | n + 1, a3, a4, μ => gR 9 a0 2 μ (fun r1 => cV 11 r1 μ (bI (f_AL_size r1 μ) (fun v3 μ2 => (if v3 ≤ a4 then (some (.inl a3, μ2)) else gR 9 a0 2 μ2 (fun r4 => cV 11 r4 μ2 (bR (f_AL_get r4 a4 μ2) (fun r6 μ5 => cC 6 r6 μ5 (gI 6 r6 0 μ5 (fun v7 => gI 6 a2 0 μ5 (fun v8 => (if v7 = v8 then gI 6 r6 4 μ5 (fun v9 => gI 6 a2 4 μ5 (fun v10 => (if v9 < v10 then (b_H_placeInTurn_88 (k_H_placeInTurn_17 a0 a1 a2 n) a0 a1 a2 a3 a4 μ5) else gI 6 r6 4 μ5 (fun v11 => gI 6 a2 4 μ5 (fun v12 => (if v11 = v12 then (if a1 ≤ a4 then (b_H_placeInTurn_91 (k_H_placeInTurn_17 a0 a1 a2 n) a0 a1 a2 a3 a4 μ5) else (b_H_placeInTurn_88 (k_H_placeInTurn_17 a0 a1 a2 n) a0 a1 a2 a3 a4 μ5)) else (b_H_placeInTurn_91 (k_H_placeInTurn_17 a0 a1 a2 n) a0 a1 a2 a3 a4 μ5))))))) else (b_H_placeInTurn_91 (k_H_placeInTurn_17 a0 a1 a2 n) a0 a1 a2 a3 a4 μ5))))))))))))
set_option maxRecDepth 20000 in
theorem j_H_placeInTurn_17 (E : EV) (a0 : Nat) (a1 : Int32) (a2 : Nat)  : ∀ (n : Nat) (a3 : Int32) (a4 : Int32) (μ : Mem), J E I_H_placeInTurn (rmk 4 0 0) (QR E I_H_placeInTurn (rmk 4 0 0)) 0 0 μ 17 [some (.inr a0), some (.inl a1), some (.inr a2), some (.inl a3), some (.inl a4), none] [] (k_H_placeInTurn_17 a0 a1 a2 n a3 a4 μ)
  | 0, _, _, _ => J_none
  | n + 1, a3, a4, μ => by
    show J E I_H_placeInTurn (rmk 4 0 0) (QR E I_H_placeInTurn (rmk 4 0 0)) 0 0 μ 17 [some (.inr a0), some (.inl a1), some (.inr a2), some (.inl a3), some (.inl a4), none] [] (gR 9 a0 2 μ (fun r1 => cV 11 r1 μ (bI (f_AL_size r1 μ) (fun v3 μ2 => (if v3 ≤ a4 then (some (.inl a3, μ2)) else gR 9 a0 2 μ2 (fun r4 => cV 11 r4 μ2 (bR (f_AL_get r4 a4 μ2) (fun r6 μ5 => cC 6 r6 μ5 (gI 6 r6 0 μ5 (fun v7 => gI 6 a2 0 μ5 (fun v8 => (if v7 = v8 then gI 6 r6 4 μ5 (fun v9 => gI 6 a2 4 μ5 (fun v10 => (if v9 < v10 then (b_H_placeInTurn_88 (k_H_placeInTurn_17 a0 a1 a2 n) a0 a1 a2 a3 a4 μ5) else gI 6 r6 4 μ5 (fun v11 => gI 6 a2 4 μ5 (fun v12 => (if v11 = v12 then (if a1 ≤ a4 then (b_H_placeInTurn_91 (k_H_placeInTurn_17 a0 a1 a2 n) a0 a1 a2 a3 a4 μ5) else (b_H_placeInTurn_88 (k_H_placeInTurn_17 a0 a1 a2 n) a0 a1 a2 a3 a4 μ5)) else (b_H_placeInTurn_91 (k_H_placeInTurn_17 a0 a1 a2 n) a0 a1 a2 a3 a4 μ5))))))) else (b_H_placeInTurn_91 (k_H_placeInTurn_17 a0 a1 a2 n) a0 a1 a2 a3 a4 μ5)))))))))))))
    refine J_iload zd_H_placeInTurn_17 rfl ?_
    refine J_aload_n zd_H_placeInTurn_19 rfl ?_
    refine J_gR zd_H_placeInTurn_20 zf_H_19 rfl (fun r1 => ?_)
    refine J_callVi (ci := 11) (as := []) zd_H_placeInTurn_23 zm_AL_size ⟨Nat.le_of_ble_eq_true rfl, Nat.le_of_ble_eq_true rfl⟩ zw_225 zw_226 zw_227 (by decide) rfl rfl (Nat.le_of_ble_eq_true rfl) ⟨Nat.le_of_ble_eq_true rfl, Nat.le_of_ble_eq_true rfl⟩ rfl rfl (c_AL_size E _ _) (fun v3 μ2 => ?_)
    refine J_icmp_ge (tgt := 97) zd_H_placeInTurn_26 rfl ?_ ?_
    · refine J_iload_n zd_H_placeInTurn_97 rfl ?_
      exact J_iret zd_H_placeInTurn_98 rfl (Nat.le_of_ble_eq_true rfl) (Nat.le_of_ble_eq_true rfl)
    · refine J_aload_n zd_H_placeInTurn_29 rfl ?_
      refine J_gR zd_H_placeInTurn_30 zf_H_19 rfl (fun r4 => ?_)
      refine J_iload zd_H_placeInTurn_33 rfl ?_
      refine J_callVr (ci := 11) (as := [.inl _]) zd_H_placeInTurn_35 zm_AL_get ⟨Nat.le_of_ble_eq_true rfl, Nat.le_of_ble_eq_true rfl⟩ zw_327 zw_328 zw_329 (by decide) rfl rfl (Nat.le_of_ble_eq_true rfl) ⟨Nat.le_of_ble_eq_true rfl, Nat.le_of_ble_eq_true rfl⟩ rfl rfl (c_AL_get E _ _ _) (fun r6 μ5 => ?_)
      refine J_cast (ci := 6) zd_H_placeInTurn_38 (by decide) rfl zw_229 ?_
      refine J_astore (lv' := [some _, some _, some _, some _, some _, some _]) zd_H_placeInTurn_41 (Nat.le_of_ble_eq_true rfl) rfl ?_
      refine J_aload zd_H_placeInTurn_43 rfl ?_
      refine J_gI zd_H_placeInTurn_45 zf_H_138 rfl (fun v7 => ?_)
      refine J_aload_n zd_H_placeInTurn_48 rfl ?_
      refine J_gI zd_H_placeInTurn_49 zf_H_138 rfl (fun v8 => ?_)
      refine J_icmp_eq (tgt := 58) zd_H_placeInTurn_52 rfl ?_ ?_
      · refine J_aload zd_H_placeInTurn_58 rfl ?_
        refine J_gI zd_H_placeInTurn_60 zf_H_108 rfl (fun v9 => ?_)
        refine J_aload_n zd_H_placeInTurn_63 rfl ?_
        refine J_gI zd_H_placeInTurn_64 zf_H_108 rfl (fun v10 => ?_)
        refine J_icmp_lt (tgt := 88) zd_H_placeInTurn_67 rfl ?_ ?_
        · refine J_wid (k := 0) (n := 0) (Nat.le_of_ble_eq_true rfl) (Nat.le_of_ble_eq_true rfl) ?_
          refine J_keep [true, true, true, true, true, false] rfl ?_
          exact j_H_placeInTurn_88 E _ _ _ _ _ _ (j_H_placeInTurn_17 E a0 a1 a2 n)
        · refine J_aload zd_H_placeInTurn_70 rfl ?_
          refine J_gI zd_H_placeInTurn_72 zf_H_108 rfl (fun v11 => ?_)
          refine J_aload_n zd_H_placeInTurn_75 rfl ?_
          refine J_gI zd_H_placeInTurn_76 zf_H_108 rfl (fun v12 => ?_)
          refine J_icmp_ne (tgt := 91) zd_H_placeInTurn_79 rfl ?_ ?_
          · refine J_wid (k := 0) (n := 0) (Nat.le_of_ble_eq_true rfl) (Nat.le_of_ble_eq_true rfl) ?_
            refine J_keep [true, true, true, true, true, false] rfl ?_
            exact j_H_placeInTurn_91 E _ _ _ _ _ _ (j_H_placeInTurn_17 E a0 a1 a2 n)
          · refine J_iload zd_H_placeInTurn_82 rfl ?_
            refine J_iload_n zd_H_placeInTurn_84 rfl ?_
            refine J_icmp_ge (tgt := 91) zd_H_placeInTurn_85 rfl ?_ ?_
            · refine J_wid (k := 0) (n := 0) (Nat.le_of_ble_eq_true rfl) (Nat.le_of_ble_eq_true rfl) ?_
              refine J_keep [true, true, true, true, true, false] rfl ?_
              exact j_H_placeInTurn_91 E _ _ _ _ _ _ (j_H_placeInTurn_17 E a0 a1 a2 n)
            · refine J_wid (k := 0) (n := 0) (Nat.le_of_ble_eq_true rfl) (Nat.le_of_ble_eq_true rfl) ?_
              refine J_keep [true, true, true, true, true, false] rfl ?_
              exact j_H_placeInTurn_88 E _ _ _ _ _ _ (j_H_placeInTurn_17 E a0 a1 a2 n)
      · refine J_goto (tgt := 91) zd_H_placeInTurn_55 rfl ?_
        refine J_wid (k := 0) (n := 0) (Nat.le_of_ble_eq_true rfl) (Nat.le_of_ble_eq_true rfl) ?_
        refine J_keep [true, true, true, true, true, false] rfl ?_
        exact j_H_placeInTurn_91 E _ _ _ _ _ _ (j_H_placeInTurn_17 E a0 a1 a2 n)
def f_H_placeInTurn (a0 : Nat) (a1 : Int32) (μ : Mem) : Option (LV × Mem) := gR 9 a0 2 μ (fun r13 => cV 11 r13 μ (bR (f_AL_get r13 a1 μ) (fun r15 μ14 => cC 6 r15 μ14 ((k_H_placeInTurn_17 a0 a1 r15 120000 0 0 μ14)))))
set_option maxRecDepth 20000 in
theorem c_H_placeInTurn (E : EV) (a0 : Nat) (a1 : Int32) (μ : Mem) : Ct E I_H_placeInTurn (rmk 4 0 0) [.inr a0, .inl a1] μ (f_H_placeInTurn a0 a1 μ) := by
  refine Ct.of (k := 4) (by decide +kernel) rfl ?_
  show J E I_H_placeInTurn (rmk 4 0 0) (QR E I_H_placeInTurn (rmk 4 0 0)) 0 0 μ 0 [some (.inr a0), some (.inl a1), none, none, none, none] [] (f_H_placeInTurn a0 a1 μ)
  unfold f_H_placeInTurn
  refine J_aload_n zd_H_placeInTurn_0 rfl ?_
  refine J_gR zd_H_placeInTurn_1 zf_H_19 rfl (fun r13 => ?_)
  refine J_iload_n zd_H_placeInTurn_4 rfl ?_
  refine J_callVr (ci := 11) (as := [.inl _]) zd_H_placeInTurn_5 zm_AL_get ⟨Nat.le_of_ble_eq_true rfl, Nat.le_of_ble_eq_true rfl⟩ zw_327 zw_328 zw_329 (by decide) rfl rfl (Nat.le_of_ble_eq_true rfl) ⟨Nat.le_of_ble_eq_true rfl, Nat.le_of_ble_eq_true rfl⟩ rfl rfl (c_AL_get E _ _ _) (fun r15 μ14 => ?_)
  refine J_cast (ci := 6) zd_H_placeInTurn_8 (by decide) rfl zw_229 ?_
  refine J_astore_n (lv' := [some _, some _, some _, none, none, none]) zd_H_placeInTurn_11 (Nat.le_of_ble_eq_true rfl) rfl ?_
  refine J_iconst (v := 0) zd_H_placeInTurn_12 (by decide) ?_
  refine J_istore_n (lv' := [some _, some _, some _, some _, none, none]) zd_H_placeInTurn_13 (Nat.le_of_ble_eq_true rfl) rfl ?_
  refine J_iconst (v := 0) zd_H_placeInTurn_14 (by decide) ?_
  refine J_istore (lv' := [some _, some _, some _, some _, some _, none]) zd_H_placeInTurn_15 (Nat.le_of_ble_eq_true rfl) rfl ?_
  refine J_wid (k := 0) (n := 0) (Nat.le_of_ble_eq_true rfl) (Nat.le_of_ble_eq_true rfl) ?_
  refine J_keep [true, true, true, true, true, false] rfl ?_
  exact j_H_placeInTurn_17 E _ _ _ _ _ _ _
def b_H_turn_55 (c15 : Int32 → Mem → Option (LV × Mem)) (a0 : Nat) (a1 : Int32) (a2 : Int32) (a3 : Int32)  (μ : Mem) : Option (LV × Mem) := (c15 (a3 + 1) μ)
set_option maxRecDepth 20000 in
theorem j_H_turn_55 (E : EV) (a0 : Nat) (a1 : Int32) (a2 : Int32) (a3 : Int32)  (μ : Mem) {c15 : Int32 → Mem → Option (LV × Mem)} (h15 : ∀ (b3 : Int32)  (μ : Mem), J E I_H_turn (rmk 5 0 0) (QR E I_H_turn (rmk 5 0 0)) 0 0 μ 15 [some (.inr a0), some (.inl a1), some (.inl a2), some (.inl b3)] [] (c15 b3 μ)) : J E I_H_turn (rmk 5 0 0) (QR E I_H_turn (rmk 5 0 0)) 0 0 μ 55 [some (.inr a0), some (.inl a1), some (.inl a2), some (.inl a3)] [] (b_H_turn_55 c15 a0 a1 a2 a3 μ) := by
  unfold b_H_turn_55
  refine J_iinc (v := _ + 1) (lv' := [some _, some _, some _, some _]) zd_H_turn_55 (Nat.le_of_ble_eq_true rfl) rfl (by rfl) rfl ?_
  refine J_goto (tgt := 15) zd_H_turn_58 rfl ?_
  refine J_wid (k := 0) (n := 0) (Nat.le_of_ble_eq_true rfl) (Nat.le_of_ble_eq_true rfl) ?_
  refine J_keep [true, true, true, true] rfl ?_
  exact h15 _ _
def k_H_turn_15  (a0 : Nat) (a1 : Int32) (a2 : Int32) : Nat → Int32 → Mem → Option (LV × Mem)
  | 0, _, _ => none
  | n + 1, a3, μ => gR 9 a0 2 μ (fun r1 => cV 11 r1 μ (bI (f_AL_size r1 μ) (fun v3 μ2 => (if v3 ≤ a3 then (some (.inl (-9), μ2)) else gR 9 a0 2 μ2 (fun r4 => cV 11 r4 μ2 (bR (f_AL_get r4 a3 μ2) (fun r6 μ5 => cC 6 r6 μ5 (gI 6 r6 0 μ5 (fun v7 => (if v7 = a1 then cV 9 a0 μ5 (bI (f_H_placeInTurn a0 a3 μ5) (fun v9 μ8 => (if v9 = a2 then (some (.inl a3, μ8)) else (b_H_turn_55 (k_H_turn_15 a0 a1 a2 n) a0 a1 a2 a3 μ8)))) else (b_H_turn_55 (k_H_turn_15 a0 a1 a2 n) a0 a1 a2 a3 μ5)))))))))))
set_option maxRecDepth 20000 in
theorem j_H_turn_15 (E : EV) (a0 : Nat) (a1 : Int32) (a2 : Int32)  : ∀ (n : Nat) (a3 : Int32) (μ : Mem), J E I_H_turn (rmk 5 0 0) (QR E I_H_turn (rmk 5 0 0)) 0 0 μ 15 [some (.inr a0), some (.inl a1), some (.inl a2), some (.inl a3)] [] (k_H_turn_15 a0 a1 a2 n a3 μ)
  | 0, _, _ => J_none
  | n + 1, a3, μ => by
    show J E I_H_turn (rmk 5 0 0) (QR E I_H_turn (rmk 5 0 0)) 0 0 μ 15 [some (.inr a0), some (.inl a1), some (.inl a2), some (.inl a3)] [] (gR 9 a0 2 μ (fun r1 => cV 11 r1 μ (bI (f_AL_size r1 μ) (fun v3 μ2 => (if v3 ≤ a3 then (some (.inl (-9), μ2)) else gR 9 a0 2 μ2 (fun r4 => cV 11 r4 μ2 (bR (f_AL_get r4 a3 μ2) (fun r6 μ5 => cC 6 r6 μ5 (gI 6 r6 0 μ5 (fun v7 => (if v7 = a1 then cV 9 a0 μ5 (bI (f_H_placeInTurn a0 a3 μ5) (fun v9 μ8 => (if v9 = a2 then (some (.inl a3, μ8)) else (b_H_turn_55 (k_H_turn_15 a0 a1 a2 n) a0 a1 a2 a3 μ8)))) else (b_H_turn_55 (k_H_turn_15 a0 a1 a2 n) a0 a1 a2 a3 μ5))))))))))))
    refine J_iload_n zd_H_turn_15 rfl ?_
    refine J_aload_n zd_H_turn_16 rfl ?_
    refine J_gR zd_H_turn_17 zf_H_19 rfl (fun r1 => ?_)
    refine J_callVi (ci := 11) (as := []) zd_H_turn_20 zm_AL_size ⟨Nat.le_of_ble_eq_true rfl, Nat.le_of_ble_eq_true rfl⟩ zw_225 zw_226 zw_227 (by decide) rfl rfl (Nat.le_of_ble_eq_true rfl) ⟨Nat.le_of_ble_eq_true rfl, Nat.le_of_ble_eq_true rfl⟩ rfl rfl (c_AL_size E _ _) (fun v3 μ2 => ?_)
    refine J_icmp_ge (tgt := 61) zd_H_turn_23 rfl ?_ ?_
    · refine J_bipush (v := (-9)) zd_H_turn_61 (by decide) ?_
      exact J_iret zd_H_turn_63 rfl (Nat.le_of_ble_eq_true rfl) (Nat.le_of_ble_eq_true rfl)
    · refine J_aload_n zd_H_turn_26 rfl ?_
      refine J_gR zd_H_turn_27 zf_H_19 rfl (fun r4 => ?_)
      refine J_iload_n zd_H_turn_30 rfl ?_
      refine J_callVr (ci := 11) (as := [.inl _]) zd_H_turn_31 zm_AL_get ⟨Nat.le_of_ble_eq_true rfl, Nat.le_of_ble_eq_true rfl⟩ zw_327 zw_328 zw_329 (by decide) rfl rfl (Nat.le_of_ble_eq_true rfl) ⟨Nat.le_of_ble_eq_true rfl, Nat.le_of_ble_eq_true rfl⟩ rfl rfl (c_AL_get E _ _ _) (fun r6 μ5 => ?_)
      refine J_cast (ci := 6) zd_H_turn_34 (by decide) rfl zw_229 ?_
      refine J_gI zd_H_turn_37 zf_H_138 rfl (fun v7 => ?_)
      refine J_iload_n zd_H_turn_40 rfl ?_
      refine J_icmp_ne (tgt := 55) zd_H_turn_41 rfl ?_ ?_
      · refine J_wid (k := 0) (n := 0) (Nat.le_of_ble_eq_true rfl) (Nat.le_of_ble_eq_true rfl) ?_
        refine J_keep [true, true, true, true] rfl ?_
        exact j_H_turn_55 E _ _ _ _ _ (j_H_turn_15 E a0 a1 a2 n)
      · refine J_aload_n zd_H_turn_44 rfl ?_
        refine J_iload_n zd_H_turn_45 rfl ?_
        refine J_callVi (ci := 9) (as := [.inl _]) zd_H_turn_46 zm_H_placeInTurn ⟨Nat.le_of_ble_eq_true rfl, Nat.le_of_ble_eq_true rfl⟩ zw_667 zw_669 zs_19 (by decide) rfl rfl (Nat.le_of_ble_eq_true rfl) ⟨Nat.le_of_ble_eq_true rfl, Nat.le_of_ble_eq_true rfl⟩ rfl rfl (c_H_placeInTurn E _ _ _) (fun v9 μ8 => ?_)
        refine J_iload_n zd_H_turn_49 rfl ?_
        refine J_icmp_ne (tgt := 55) zd_H_turn_50 rfl ?_ ?_
        · refine J_wid (k := 0) (n := 0) (Nat.le_of_ble_eq_true rfl) (Nat.le_of_ble_eq_true rfl) ?_
          refine J_keep [true, true, true, true] rfl ?_
          exact j_H_turn_55 E _ _ _ _ _ (j_H_turn_15 E a0 a1 a2 n)
        · refine J_iload_n zd_H_turn_53 rfl ?_
          exact J_iret zd_H_turn_54 rfl (Nat.le_of_ble_eq_true rfl) (Nat.le_of_ble_eq_true rfl)
def f_H_turn (a0 : Nat) (a1 : Int32) (a2 : Int32) (μ : Mem) : Option (LV × Mem) := bI (f_H_isStation a1 μ) (fun v11 μ10 => (if v11 = 0 then cV 9 a0 μ10 (bI (f_H_refuse a0 (-1) μ10) (fun v13 μ12 => (some (.inl v13, μ12)))) else (k_H_turn_15 a0 a1 a2 120000 0 μ10)))
set_option maxRecDepth 20000 in
theorem c_H_turn (E : EV) (a0 : Nat) (a1 : Int32) (a2 : Int32) (μ : Mem) : Ct E I_H_turn (rmk 5 0 0) [.inr a0, .inl a1, .inl a2] μ (f_H_turn a0 a1 a2 μ) := by
  refine Ct.of (k := 1) (by decide +kernel) rfl ?_
  show J E I_H_turn (rmk 5 0 0) (QR E I_H_turn (rmk 5 0 0)) 0 0 μ 0 [some (.inr a0), some (.inl a1), some (.inl a2), none] [] (f_H_turn a0 a1 a2 μ)
  unfold f_H_turn
  refine J_iload_n zd_H_turn_0 rfl ?_
  refine J_callSi (as := [.inl _]) zd_H_turn_1 zm_H_isStation ⟨Nat.le_of_ble_eq_true rfl, Nat.le_of_ble_eq_true rfl⟩ zw_211 zw_212 rfl (Nat.le_of_ble_eq_true rfl) ⟨Nat.le_of_ble_eq_true rfl, Nat.le_of_ble_eq_true rfl⟩ rfl rfl (c_H_isStation E _ _) (fun v11 μ10 => ?_)
  refine J_if_ne (tgt := 13) zd_H_turn_4 rfl ?_ ?_
  · refine J_iconst (v := 0) zd_H_turn_13 (by decide) ?_
    refine J_istore_n (lv' := [some _, some _, some _, some _]) zd_H_turn_14 (Nat.le_of_ble_eq_true rfl) rfl ?_
    refine J_wid (k := 0) (n := 0) (Nat.le_of_ble_eq_true rfl) (Nat.le_of_ble_eq_true rfl) ?_
    refine J_keep [true, true, true, true] rfl ?_
    exact j_H_turn_15 E _ _ _ _ _ _
  · refine J_aload_n zd_H_turn_7 rfl ?_
    refine J_iconst (v := (-1)) zd_H_turn_8 (by decide) ?_
    refine J_callVi (ci := 9) (as := [.inl _]) zd_H_turn_9 zm_H_refuse ⟨Nat.le_of_ble_eq_true rfl, Nat.le_of_ble_eq_true rfl⟩ zw_214 zw_216 zs_0 (by decide) rfl rfl (Nat.le_of_ble_eq_true rfl) ⟨Nat.le_of_ble_eq_true rfl, Nat.le_of_ble_eq_true rfl⟩ rfl rfl (c_H_refuse E _ _ _) (fun v13 μ12 => ?_)
    exact J_iret zd_H_turn_12 rfl (Nat.le_of_ble_eq_true rfl) (Nat.le_of_ble_eq_true rfl)
def b_H_personOf_26  (a0 : Nat)  (μ : Mem) : Option (LV × Mem) := cV 9 a0 μ (bI (f_H_refuse a0 (-2) μ) (fun v2 μ1 => (some (.inl v2, μ1))))
set_option maxRecDepth 20000 in
theorem j_H_personOf_26 (E : EV) (a0 : Nat)  (μ : Mem)  : J E I_H_personOf (rmk 5 0 0) (QR E I_H_personOf (rmk 5 0 0)) 0 0 μ 26 [some (.inr a0), none, none, none] [] (b_H_personOf_26 a0 μ) := by
  unfold b_H_personOf_26
  refine J_aload_n zd_H_personOf_26 rfl ?_
  refine J_bipush (v := (-2)) zd_H_personOf_27 (by decide) ?_
  refine J_callVi (ci := 9) (as := [.inl _]) zd_H_personOf_29 zm_H_refuse ⟨Nat.le_of_ble_eq_true rfl, Nat.le_of_ble_eq_true rfl⟩ zw_214 zw_216 zs_0 (by decide) rfl rfl (Nat.le_of_ble_eq_true rfl) ⟨Nat.le_of_ble_eq_true rfl, Nat.le_of_ble_eq_true rfl⟩ rfl rfl (c_H_refuse E _ _ _) (fun v2 μ1 => ?_)
  exact J_iret zd_H_personOf_32 rfl (Nat.le_of_ble_eq_true rfl) (Nat.le_of_ble_eq_true rfl)
def f_H_personOf (a0 : Nat) (a1 : Int32) (a2 : Int32) (μ : Mem) : Option (LV × Mem) := cV 9 a0 μ (bR (f_H_personAt a0 a1 μ) (fun r4 μ3 => (if r4 = 0 then cV 9 a0 μ3 (bI (f_H_refuse a0 (-1) μ3) (fun v14 μ13 => (some (.inl v14, μ13)))) else (if a2 < 0 then (b_H_personOf_26 a0 μ3) else (if a2 < 20 then (if a2 < 12 then (if a2 < 4 then (if a2 = 0 then gI 6 r4 0 μ3 (fun v5 => (some (.inl v5, μ3))) else (if a2 = 1 then gI 6 r4 1 μ3 (fun v6 => (some (.inl v6, μ3))) else (if a2 = 2 then gI 6 r4 4 μ3 (fun v7 => (some (.inl v7, μ3))) else gI 6 r4 5 μ3 (fun v8 => (some (.inl v8, μ3)))))) else gR 6 r4 2 μ3 (fun r9 => aI r9 (a2 - 4) μ3 (fun v10 => (some (.inl v10, μ3))))) else gR 6 r4 3 μ3 (fun r11 => aI r11 ((a2 - 4) - 8) μ3 (fun v12 => (some (.inl v12, μ3))))) else (b_H_personOf_26 a0 μ3))))))
set_option maxRecDepth 20000 in
theorem c_H_personOf (E : EV) (a0 : Nat) (a1 : Int32) (a2 : Int32) (μ : Mem) : Ct E I_H_personOf (rmk 5 0 0) [.inr a0, .inl a1, .inl a2] μ (f_H_personOf a0 a1 a2 μ) := by
  refine Ct.of (k := 1) (by decide +kernel) rfl ?_
  show J E I_H_personOf (rmk 5 0 0) (QR E I_H_personOf (rmk 5 0 0)) 0 0 μ 0 [some (.inr a0), some (.inl a1), some (.inl a2), none] [] (f_H_personOf a0 a1 a2 μ)
  unfold f_H_personOf
  refine J_aload_n zd_H_personOf_0 rfl ?_
  refine J_iload_n zd_H_personOf_1 rfl ?_
  refine J_callVr (ci := 9) (as := [.inl _]) zd_H_personOf_2 zm_H_personAt ⟨Nat.le_of_ble_eq_true rfl, Nat.le_of_ble_eq_true rfl⟩ zw_323 zw_325 zs_4 (by decide) rfl rfl (Nat.le_of_ble_eq_true rfl) ⟨Nat.le_of_ble_eq_true rfl, Nat.le_of_ble_eq_true rfl⟩ rfl rfl (c_H_personAt E _ _ _) (fun r4 μ3 => ?_)
  refine J_astore_n (lv' := [some _, some _, some _, some _]) zd_H_personOf_5 (Nat.le_of_ble_eq_true rfl) rfl ?_
  refine J_aload_n zd_H_personOf_6 rfl ?_
  refine J_ifnonnull (tgt := 16) zd_H_personOf_7 rfl ?_ ?_
  · refine J_iload_n zd_H_personOf_16 rfl ?_
    refine J_if_lt (tgt := 26) zd_H_personOf_17 rfl ?_ ?_
    · refine J_wid (k := 0) (n := 0) (Nat.le_of_ble_eq_true rfl) (Nat.le_of_ble_eq_true rfl) ?_
      refine J_keep [true, false, false, false] rfl ?_
      exact j_H_personOf_26 E _ _
    · refine J_iload_n zd_H_personOf_20 rfl ?_
      refine J_bipush (v := 20) zd_H_personOf_21 (by decide) ?_
      refine J_icmp_lt (tgt := 33) zd_H_personOf_23 rfl ?_ ?_
      · refine J_iload_n zd_H_personOf_33 rfl ?_
        refine J_bipush (v := 12) zd_H_personOf_34 (by decide) ?_
        refine J_icmp_lt (tgt := 51) zd_H_personOf_36 rfl ?_ ?_
        · refine J_iload_n zd_H_personOf_51 rfl ?_
          refine J_iconst (v := 4) zd_H_personOf_52 (by decide) ?_
          refine J_icmp_lt (tgt := 65) zd_H_personOf_53 rfl ?_ ?_
          · refine J_iload_n zd_H_personOf_65 rfl ?_
            refine J_swc (v := 0) (fun q0 => ?_) (fun q0 => ?_)
            · refine J_swIn (v := 0) zd_H_personOf_66 q0 (by decide) (by decide) (off := 26) (tgt := 92) (by decide) rfl ?_
              refine J_aload_n zd_H_personOf_92 rfl ?_
              refine J_gI zd_H_personOf_93 zf_H_138 rfl (fun v5 => ?_)
              exact J_iret zd_H_personOf_96 rfl (Nat.le_of_ble_eq_true rfl) (Nat.le_of_ble_eq_true rfl)
            · skip
              refine J_swc (v := 1) (fun q1 => ?_) (fun q1 => ?_)
              · refine J_swIn (v := 1) zd_H_personOf_66 q1 (by decide) (by decide) (off := 31) (tgt := 97) (by decide) rfl ?_
                refine J_aload_n zd_H_personOf_97 rfl ?_
                refine J_gI zd_H_personOf_98 zf_H_141 rfl (fun v6 => ?_)
                exact J_iret zd_H_personOf_101 rfl (Nat.le_of_ble_eq_true rfl) (Nat.le_of_ble_eq_true rfl)
              · skip
                refine J_swc (v := 2) (fun q2 => ?_) (fun q2 => ?_)
                · refine J_swIn (v := 2) zd_H_personOf_66 q2 (by decide) (by decide) (off := 36) (tgt := 102) (by decide) rfl ?_
                  refine J_aload_n zd_H_personOf_102 rfl ?_
                  refine J_gI zd_H_personOf_103 zf_H_108 rfl (fun v7 => ?_)
                  exact J_iret zd_H_personOf_106 rfl (Nat.le_of_ble_eq_true rfl) (Nat.le_of_ble_eq_true rfl)
                · skip
                  refine J_swOut (tgt := 107) zd_H_personOf_66 (sw_out [0, 1, 2] (List.forall_mem_cons.mpr ⟨q0, List.forall_mem_cons.mpr ⟨q1, List.forall_mem_cons.mpr ⟨q2, fun _ h => absurd h List.not_mem_nil⟩⟩⟩) (by decide +kernel)) rfl ?_
                  refine J_aload_n zd_H_personOf_107 rfl ?_
                  refine J_gI zd_H_personOf_108 zf_H_295 rfl (fun v8 => ?_)
                  exact J_iret zd_H_personOf_111 rfl (Nat.le_of_ble_eq_true rfl) (Nat.le_of_ble_eq_true rfl)
          · refine J_aload_n zd_H_personOf_56 rfl ?_
            refine J_gR zd_H_personOf_57 zf_H_114 rfl (fun r9 => ?_)
            refine J_iload_n zd_H_personOf_60 rfl ?_
            refine J_iconst (v := 4) zd_H_personOf_61 (by decide) ?_
            refine J_isub zd_H_personOf_62 ?_
            refine J_aI zd_H_personOf_63 (fun v10 => ?_)
            exact J_iret zd_H_personOf_64 rfl (Nat.le_of_ble_eq_true rfl) (Nat.le_of_ble_eq_true rfl)
        · refine J_aload_n zd_H_personOf_39 rfl ?_
          refine J_gR zd_H_personOf_40 zf_H_117 rfl (fun r11 => ?_)
          refine J_iload_n zd_H_personOf_43 rfl ?_
          refine J_iconst (v := 4) zd_H_personOf_44 (by decide) ?_
          refine J_isub zd_H_personOf_45 ?_
          refine J_bipush (v := 8) zd_H_personOf_46 (by decide) ?_
          refine J_isub zd_H_personOf_48 ?_
          refine J_aI zd_H_personOf_49 (fun v12 => ?_)
          exact J_iret zd_H_personOf_50 rfl (Nat.le_of_ble_eq_true rfl) (Nat.le_of_ble_eq_true rfl)
      · refine J_wid (k := 0) (n := 0) (Nat.le_of_ble_eq_true rfl) (Nat.le_of_ble_eq_true rfl) ?_
        refine J_keep [true, false, false, false] rfl ?_
        exact j_H_personOf_26 E _ _
  · refine J_aload_n zd_H_personOf_10 rfl ?_
    refine J_iconst (v := (-1)) zd_H_personOf_11 (by decide) ?_
    refine J_callVi (ci := 9) (as := [.inl _]) zd_H_personOf_12 zm_H_refuse ⟨Nat.le_of_ble_eq_true rfl, Nat.le_of_ble_eq_true rfl⟩ zw_214 zw_216 zs_0 (by decide) rfl rfl (Nat.le_of_ble_eq_true rfl) ⟨Nat.le_of_ble_eq_true rfl, Nat.le_of_ble_eq_true rfl⟩ rfl rfl (c_H_refuse E _ _ _) (fun v14 μ13 => ?_)
    exact J_iret zd_H_personOf_15 rfl (Nat.le_of_ble_eq_true rfl) (Nat.le_of_ble_eq_true rfl)
def b_H_boatsAway_39 (c4 : Int32 → Int32 → Mem → Option (LV × Mem)) (a0 : Nat) (a1 : Int32) (a2 : Int32)  (μ : Mem) : Option (LV × Mem) := (c4 a1 (a2 + 1) μ)
set_option maxRecDepth 20000 in
theorem j_H_boatsAway_39 (E : EV) (a0 : Nat) (a1 : Int32) (a2 : Int32)  (μ : Mem) {c4 : Int32 → Int32 → Mem → Option (LV × Mem)} (h4 : ∀ (b1 : Int32) (b2 : Int32)  (μ : Mem), J E I_H_boatsAway (rmk 4 0 0) (QR E I_H_boatsAway (rmk 4 0 0)) 0 0 μ 4 [some (.inr a0), some (.inl b1), some (.inl b2)] [] (c4 b1 b2 μ)) : J E I_H_boatsAway (rmk 4 0 0) (QR E I_H_boatsAway (rmk 4 0 0)) 0 0 μ 39 [some (.inr a0), some (.inl a1), some (.inl a2)] [] (b_H_boatsAway_39 c4 a0 a1 a2 μ) := by
  unfold b_H_boatsAway_39
  refine J_iinc (v := _ + 1) (lv' := [some _, some _, some _]) zd_H_boatsAway_39 (Nat.le_of_ble_eq_true rfl) rfl (by rfl) rfl ?_
  refine J_goto (tgt := 4) zd_H_boatsAway_42 rfl ?_
  refine J_wid (k := 0) (n := 0) (Nat.le_of_ble_eq_true rfl) (Nat.le_of_ble_eq_true rfl) ?_
  refine J_keep [true, true, true] rfl ?_
  exact h4 _ _ _
def k_H_boatsAway_4  (a0 : Nat) : Nat → Int32 → Int32 → Mem → Option (LV × Mem)
  | 0, _, _, _ => none
  | n + 1, a1, a2, μ => gR 9 a0 3 μ (fun r1 => cV 11 r1 μ (bI (f_AL_size r1 μ) (fun v3 μ2 => (if v3 ≤ a2 then (some (.inl a1, μ2)) else gR 9 a0 3 μ2 (fun r4 => cV 11 r4 μ2 (bR (f_AL_get r4 a2 μ2) (fun r6 μ5 => cC 0 r6 μ5 (gI 9 a0 12 μ5 (fun v7 => cV 0 r6 μ5 (bI (f_B_isAway r6 v7 μ5) (fun v9 μ8 => (if v9 = 0 then (b_H_boatsAway_39 (k_H_boatsAway_4 a0 n) a0 a1 a2 μ8) else (b_H_boatsAway_39 (k_H_boatsAway_4 a0 n) a0 (a1 + 1) a2 μ8)))))))))))))
set_option maxRecDepth 20000 in
theorem j_H_boatsAway_4 (E : EV) (a0 : Nat)  : ∀ (n : Nat) (a1 : Int32) (a2 : Int32) (μ : Mem), J E I_H_boatsAway (rmk 4 0 0) (QR E I_H_boatsAway (rmk 4 0 0)) 0 0 μ 4 [some (.inr a0), some (.inl a1), some (.inl a2)] [] (k_H_boatsAway_4 a0 n a1 a2 μ)
  | 0, _, _, _ => J_none
  | n + 1, a1, a2, μ => by
    show J E I_H_boatsAway (rmk 4 0 0) (QR E I_H_boatsAway (rmk 4 0 0)) 0 0 μ 4 [some (.inr a0), some (.inl a1), some (.inl a2)] [] (gR 9 a0 3 μ (fun r1 => cV 11 r1 μ (bI (f_AL_size r1 μ) (fun v3 μ2 => (if v3 ≤ a2 then (some (.inl a1, μ2)) else gR 9 a0 3 μ2 (fun r4 => cV 11 r4 μ2 (bR (f_AL_get r4 a2 μ2) (fun r6 μ5 => cC 0 r6 μ5 (gI 9 a0 12 μ5 (fun v7 => cV 0 r6 μ5 (bI (f_B_isAway r6 v7 μ5) (fun v9 μ8 => (if v9 = 0 then (b_H_boatsAway_39 (k_H_boatsAway_4 a0 n) a0 a1 a2 μ8) else (b_H_boatsAway_39 (k_H_boatsAway_4 a0 n) a0 (a1 + 1) a2 μ8))))))))))))))
    refine J_iload_n zd_H_boatsAway_4 rfl ?_
    refine J_aload_n zd_H_boatsAway_5 rfl ?_
    refine J_gR zd_H_boatsAway_6 zf_H_23 rfl (fun r1 => ?_)
    refine J_callVi (ci := 11) (as := []) zd_H_boatsAway_9 zm_AL_size ⟨Nat.le_of_ble_eq_true rfl, Nat.le_of_ble_eq_true rfl⟩ zw_225 zw_226 zw_227 (by decide) rfl rfl (Nat.le_of_ble_eq_true rfl) ⟨Nat.le_of_ble_eq_true rfl, Nat.le_of_ble_eq_true rfl⟩ rfl rfl (c_AL_size E _ _) (fun v3 μ2 => ?_)
    refine J_icmp_ge (tgt := 45) zd_H_boatsAway_12 rfl ?_ ?_
    · refine J_iload_n zd_H_boatsAway_45 rfl ?_
      exact J_iret zd_H_boatsAway_46 rfl (Nat.le_of_ble_eq_true rfl) (Nat.le_of_ble_eq_true rfl)
    · refine J_aload_n zd_H_boatsAway_15 rfl ?_
      refine J_gR zd_H_boatsAway_16 zf_H_23 rfl (fun r4 => ?_)
      refine J_iload_n zd_H_boatsAway_19 rfl ?_
      refine J_callVr (ci := 11) (as := [.inl _]) zd_H_boatsAway_20 zm_AL_get ⟨Nat.le_of_ble_eq_true rfl, Nat.le_of_ble_eq_true rfl⟩ zw_327 zw_328 zw_329 (by decide) rfl rfl (Nat.le_of_ble_eq_true rfl) ⟨Nat.le_of_ble_eq_true rfl, Nat.le_of_ble_eq_true rfl⟩ rfl rfl (c_AL_get E _ _ _) (fun r6 μ5 => ?_)
      refine J_cast (ci := 0) zd_H_boatsAway_23 (by decide) rfl zw_432 ?_
      refine J_aload_n zd_H_boatsAway_26 rfl ?_
      refine J_gI zd_H_boatsAway_27 zf_H_70 rfl (fun v7 => ?_)
      refine J_callVi (ci := 0) (as := [.inl _]) zd_H_boatsAway_30 zm_B_isAway ⟨Nat.le_of_ble_eq_true rfl, Nat.le_of_ble_eq_true rfl⟩ zw_470 zw_471 zw_472 (by decide) rfl rfl (Nat.le_of_ble_eq_true rfl) ⟨Nat.le_of_ble_eq_true rfl, Nat.le_of_ble_eq_true rfl⟩ rfl rfl (c_B_isAway E _ _ _) (fun v9 μ8 => ?_)
      refine J_if_eq (tgt := 39) zd_H_boatsAway_33 rfl ?_ ?_
      · refine J_wid (k := 0) (n := 0) (Nat.le_of_ble_eq_true rfl) (Nat.le_of_ble_eq_true rfl) ?_
        refine J_keep [true, true, true] rfl ?_
        exact j_H_boatsAway_39 E _ _ _ _ (j_H_boatsAway_4 E a0 n)
      · refine J_iinc (v := _ + 1) (lv' := [some _, some _, some _]) zd_H_boatsAway_36 (Nat.le_of_ble_eq_true rfl) rfl (by rfl) rfl ?_
        refine J_wid (k := 0) (n := 0) (Nat.le_of_ble_eq_true rfl) (Nat.le_of_ble_eq_true rfl) ?_
        refine J_keep [true, true, true] rfl ?_
        exact j_H_boatsAway_39 E _ _ _ _ (j_H_boatsAway_4 E a0 n)
def f_H_boatsAway (a0 : Nat) (μ : Mem) : Option (LV × Mem) := (k_H_boatsAway_4 a0 120000 0 0 μ)
set_option maxRecDepth 20000 in
theorem c_H_boatsAway (E : EV) (a0 : Nat) (μ : Mem) : Ct E I_H_boatsAway (rmk 4 0 0) [.inr a0] μ (f_H_boatsAway a0 μ) := by
  refine Ct.of (k := 2) (by decide +kernel) rfl ?_
  show J E I_H_boatsAway (rmk 4 0 0) (QR E I_H_boatsAway (rmk 4 0 0)) 0 0 μ 0 [some (.inr a0), none, none] [] (f_H_boatsAway a0 μ)
  unfold f_H_boatsAway
  refine J_iconst (v := 0) zd_H_boatsAway_0 (by decide) ?_
  refine J_istore_n (lv' := [some _, some _, none]) zd_H_boatsAway_1 (Nat.le_of_ble_eq_true rfl) rfl ?_
  refine J_iconst (v := 0) zd_H_boatsAway_2 (by decide) ?_
  refine J_istore_n (lv' := [some _, some _, some _]) zd_H_boatsAway_3 (Nat.le_of_ble_eq_true rfl) rfl ?_
  refine J_wid (k := 0) (n := 0) (Nat.le_of_ble_eq_true rfl) (Nat.le_of_ble_eq_true rfl) ?_
  refine J_keep [true, true, true] rfl ?_
  exact j_H_boatsAway_4 E _ _ _ _ _
def b_H_stationsCovered_21 (c4 : Int32 → Int32 → Mem → Option (LV × Mem)) (a0 : Nat) (a1 : Int32) (a2 : Int32)  (μ : Mem) : Option (LV × Mem) := (c4 a1 (a2 + 1) μ)
set_option maxRecDepth 20000 in
theorem j_H_stationsCovered_21 (E : EV) (a0 : Nat) (a1 : Int32) (a2 : Int32)  (μ : Mem) {c4 : Int32 → Int32 → Mem → Option (LV × Mem)} (h4 : ∀ (b1 : Int32) (b2 : Int32)  (μ : Mem), J E I_H_stationsCovered (rmk 5 0 0) (QR E I_H_stationsCovered (rmk 5 0 0)) 0 0 μ 4 [some (.inr a0), some (.inl b1), some (.inl b2)] [] (c4 b1 b2 μ)) : J E I_H_stationsCovered (rmk 5 0 0) (QR E I_H_stationsCovered (rmk 5 0 0)) 0 0 μ 21 [some (.inr a0), some (.inl a1), some (.inl a2)] [] (b_H_stationsCovered_21 c4 a0 a1 a2 μ) := by
  unfold b_H_stationsCovered_21
  refine J_iinc (v := _ + 1) (lv' := [some _, some _, some _]) zd_H_stationsCovered_21 (Nat.le_of_ble_eq_true rfl) rfl (by rfl) rfl ?_
  refine J_goto (tgt := 4) zd_H_stationsCovered_24 rfl ?_
  refine J_wid (k := 0) (n := 0) (Nat.le_of_ble_eq_true rfl) (Nat.le_of_ble_eq_true rfl) ?_
  refine J_keep [true, true, true] rfl ?_
  exact h4 _ _ _
def k_H_stationsCovered_4  (a0 : Nat) : Nat → Int32 → Int32 → Mem → Option (LV × Mem)
  | 0, _, _, _ => none
  | n + 1, a1, a2, μ => (if 6 ≤ a2 then (some (.inl a1, μ)) else cV 9 a0 μ (bI (f_H_boatsReadyAt a0 a2 μ) (fun v2 μ1 => (if v2 ≤ 0 then (b_H_stationsCovered_21 (k_H_stationsCovered_4 a0 n) a0 a1 a2 μ1) else (b_H_stationsCovered_21 (k_H_stationsCovered_4 a0 n) a0 (a1 + 1) a2 μ1)))))
set_option maxRecDepth 20000 in
theorem j_H_stationsCovered_4 (E : EV) (a0 : Nat)  : ∀ (n : Nat) (a1 : Int32) (a2 : Int32) (μ : Mem), J E I_H_stationsCovered (rmk 5 0 0) (QR E I_H_stationsCovered (rmk 5 0 0)) 0 0 μ 4 [some (.inr a0), some (.inl a1), some (.inl a2)] [] (k_H_stationsCovered_4 a0 n a1 a2 μ)
  | 0, _, _, _ => J_none
  | n + 1, a1, a2, μ => by
    show J E I_H_stationsCovered (rmk 5 0 0) (QR E I_H_stationsCovered (rmk 5 0 0)) 0 0 μ 4 [some (.inr a0), some (.inl a1), some (.inl a2)] [] ((if 6 ≤ a2 then (some (.inl a1, μ)) else cV 9 a0 μ (bI (f_H_boatsReadyAt a0 a2 μ) (fun v2 μ1 => (if v2 ≤ 0 then (b_H_stationsCovered_21 (k_H_stationsCovered_4 a0 n) a0 a1 a2 μ1) else (b_H_stationsCovered_21 (k_H_stationsCovered_4 a0 n) a0 (a1 + 1) a2 μ1))))))
    refine J_iload_n zd_H_stationsCovered_4 rfl ?_
    refine J_bipush (v := 6) zd_H_stationsCovered_5 (by decide) ?_
    refine J_icmp_ge (tgt := 27) zd_H_stationsCovered_7 rfl ?_ ?_
    · refine J_iload_n zd_H_stationsCovered_27 rfl ?_
      exact J_iret zd_H_stationsCovered_28 rfl (Nat.le_of_ble_eq_true rfl) (Nat.le_of_ble_eq_true rfl)
    · refine J_aload_n zd_H_stationsCovered_10 rfl ?_
      refine J_iload_n zd_H_stationsCovered_11 rfl ?_
      refine J_callVi (ci := 9) (as := [.inl _]) zd_H_stationsCovered_12 zm_H_boatsReadyAt ⟨Nat.le_of_ble_eq_true rfl, Nat.le_of_ble_eq_true rfl⟩ zw_587 zw_589 zs_15 (by decide) rfl rfl (Nat.le_of_ble_eq_true rfl) ⟨Nat.le_of_ble_eq_true rfl, Nat.le_of_ble_eq_true rfl⟩ rfl rfl (c_H_boatsReadyAt E _ _ _) (fun v2 μ1 => ?_)
      refine J_if_le (tgt := 21) zd_H_stationsCovered_15 rfl ?_ ?_
      · refine J_wid (k := 0) (n := 0) (Nat.le_of_ble_eq_true rfl) (Nat.le_of_ble_eq_true rfl) ?_
        refine J_keep [true, true, true] rfl ?_
        exact j_H_stationsCovered_21 E _ _ _ _ (j_H_stationsCovered_4 E a0 n)
      · refine J_iinc (v := _ + 1) (lv' := [some _, some _, some _]) zd_H_stationsCovered_18 (Nat.le_of_ble_eq_true rfl) rfl (by rfl) rfl ?_
        refine J_wid (k := 0) (n := 0) (Nat.le_of_ble_eq_true rfl) (Nat.le_of_ble_eq_true rfl) ?_
        refine J_keep [true, true, true] rfl ?_
        exact j_H_stationsCovered_21 E _ _ _ _ (j_H_stationsCovered_4 E a0 n)
def f_H_stationsCovered (a0 : Nat) (μ : Mem) : Option (LV × Mem) := (k_H_stationsCovered_4 a0 120000 0 0 μ)
set_option maxRecDepth 20000 in
theorem c_H_stationsCovered (E : EV) (a0 : Nat) (μ : Mem) : Ct E I_H_stationsCovered (rmk 5 0 0) [.inr a0] μ (f_H_stationsCovered a0 μ) := by
  refine Ct.of (k := 2) (by decide +kernel) rfl ?_
  show J E I_H_stationsCovered (rmk 5 0 0) (QR E I_H_stationsCovered (rmk 5 0 0)) 0 0 μ 0 [some (.inr a0), none, none] [] (f_H_stationsCovered a0 μ)
  unfold f_H_stationsCovered
  refine J_iconst (v := 0) zd_H_stationsCovered_0 (by decide) ?_
  refine J_istore_n (lv' := [some _, some _, none]) zd_H_stationsCovered_1 (Nat.le_of_ble_eq_true rfl) rfl ?_
  refine J_iconst (v := 0) zd_H_stationsCovered_2 (by decide) ?_
  refine J_istore_n (lv' := [some _, some _, some _]) zd_H_stationsCovered_3 (Nat.le_of_ble_eq_true rfl) rfl ?_
  refine J_wid (k := 0) (n := 0) (Nat.le_of_ble_eq_true rfl) (Nat.le_of_ble_eq_true rfl) ?_
  refine J_keep [true, true, true] rfl ?_
  exact j_H_stationsCovered_4 E _ _ _ _ _
def b_H_count_22  (a0 : Nat) (a1 : Int32)  (μ : Mem) : Option (LV × Mem) := (if a1 = 0 then gI 9 a0 12 μ (fun v1 => (some (.inl v1, μ))) else (if a1 = 1 then cV 9 a0 μ (bI (f_H_bandNow a0 μ) (fun v3 μ2 => (some (.inl v3, μ2)))) else (if a1 = 2 then gR 9 a0 2 μ (fun r4 => cV 11 r4 μ (bI (f_AL_size r4 μ) (fun v6 μ5 => (some (.inl v6, μ5))))) else (if a1 = 3 then gR 9 a0 3 μ (fun r7 => cV 11 r7 μ (bI (f_AL_size r7 μ) (fun v9 μ8 => (some (.inl v9, μ8))))) else (if a1 = 4 then cV 9 a0 μ (bI (f_H_boatsAway a0 μ) (fun v11 μ10 => (some (.inl v11, μ10)))) else (if a1 = 5 then gR 9 a0 4 μ (fun r12 => cV 11 r12 μ (bI (f_AL_size r12 μ) (fun v14 μ13 => (some (.inl v14, μ13))))) else (if a1 = 6 then gR 9 a0 5 μ (fun r15 => cV 11 r15 μ (bI (f_AL_size r15 μ) (fun v17 μ16 => (some (.inl v17, μ16))))) else (if a1 = 7 then cV 9 a0 μ (bI (f_H_stationsCovered a0 μ) (fun v19 μ18 => (some (.inl v19, μ18)))) else (some (.inl (-9), μ))))))))))
set_option maxRecDepth 20000 in
theorem j_H_count_22 (E : EV) (a0 : Nat) (a1 : Int32)  (μ : Mem)  : J E I_H_count (rmk 6 0 0) (QR E I_H_count (rmk 6 0 0)) 0 0 μ 22 [some (.inr a0), some (.inl a1)] [] (b_H_count_22 a0 a1 μ) := by
  unfold b_H_count_22
  refine J_iload_n zd_H_count_22 rfl ?_
  refine J_swc (v := 0) (fun q0 => ?_) (fun q0 => ?_)
  · refine J_swIn (v := 0) zd_H_count_23 q0 (by decide) (by decide) (off := 45) (tgt := 68) (by decide) rfl ?_
    refine J_aload_n zd_H_count_68 rfl ?_
    refine J_gI zd_H_count_69 zf_H_70 rfl (fun v1 => ?_)
    exact J_iret zd_H_count_72 rfl (Nat.le_of_ble_eq_true rfl) (Nat.le_of_ble_eq_true rfl)
  · skip
    refine J_swc (v := 1) (fun q1 => ?_) (fun q1 => ?_)
    · refine J_swIn (v := 1) zd_H_count_23 q1 (by decide) (by decide) (off := 50) (tgt := 73) (by decide) rfl ?_
      refine J_aload_n zd_H_count_73 rfl ?_
      refine J_callVi (ci := 9) (as := []) zd_H_count_74 zm_H_bandNow ⟨Nat.le_of_ble_eq_true rfl, Nat.le_of_ble_eq_true rfl⟩ zw_345 zw_347 zs_5 (by decide) rfl rfl (Nat.le_of_ble_eq_true rfl) ⟨Nat.le_of_ble_eq_true rfl, Nat.le_of_ble_eq_true rfl⟩ rfl rfl (c_H_bandNow E _ _) (fun v3 μ2 => ?_)
      exact J_iret zd_H_count_77 rfl (Nat.le_of_ble_eq_true rfl) (Nat.le_of_ble_eq_true rfl)
    · skip
      refine J_swc (v := 2) (fun q2 => ?_) (fun q2 => ?_)
      · refine J_swIn (v := 2) zd_H_count_23 q2 (by decide) (by decide) (off := 55) (tgt := 78) (by decide) rfl ?_
        refine J_aload_n zd_H_count_78 rfl ?_
        refine J_gR zd_H_count_79 zf_H_19 rfl (fun r4 => ?_)
        refine J_callVi (ci := 11) (as := []) zd_H_count_82 zm_AL_size ⟨Nat.le_of_ble_eq_true rfl, Nat.le_of_ble_eq_true rfl⟩ zw_225 zw_226 zw_227 (by decide) rfl rfl (Nat.le_of_ble_eq_true rfl) ⟨Nat.le_of_ble_eq_true rfl, Nat.le_of_ble_eq_true rfl⟩ rfl rfl (c_AL_size E _ _) (fun v6 μ5 => ?_)
        exact J_iret zd_H_count_85 rfl (Nat.le_of_ble_eq_true rfl) (Nat.le_of_ble_eq_true rfl)
      · skip
        refine J_swc (v := 3) (fun q3 => ?_) (fun q3 => ?_)
        · refine J_swIn (v := 3) zd_H_count_23 q3 (by decide) (by decide) (off := 63) (tgt := 86) (by decide) rfl ?_
          refine J_aload_n zd_H_count_86 rfl ?_
          refine J_gR zd_H_count_87 zf_H_23 rfl (fun r7 => ?_)
          refine J_callVi (ci := 11) (as := []) zd_H_count_90 zm_AL_size ⟨Nat.le_of_ble_eq_true rfl, Nat.le_of_ble_eq_true rfl⟩ zw_225 zw_226 zw_227 (by decide) rfl rfl (Nat.le_of_ble_eq_true rfl) ⟨Nat.le_of_ble_eq_true rfl, Nat.le_of_ble_eq_true rfl⟩ rfl rfl (c_AL_size E _ _) (fun v9 μ8 => ?_)
          exact J_iret zd_H_count_93 rfl (Nat.le_of_ble_eq_true rfl) (Nat.le_of_ble_eq_true rfl)
        · skip
          refine J_swc (v := 4) (fun q4 => ?_) (fun q4 => ?_)
          · refine J_swIn (v := 4) zd_H_count_23 q4 (by decide) (by decide) (off := 71) (tgt := 94) (by decide) rfl ?_
            refine J_aload_n zd_H_count_94 rfl ?_
            refine J_callVi (ci := 9) (as := []) zd_H_count_95 zm_H_boatsAway ⟨Nat.le_of_ble_eq_true rfl, Nat.le_of_ble_eq_true rfl⟩ zw_679 zw_681 zs_20 (by decide) rfl rfl (Nat.le_of_ble_eq_true rfl) ⟨Nat.le_of_ble_eq_true rfl, Nat.le_of_ble_eq_true rfl⟩ rfl rfl (c_H_boatsAway E _ _) (fun v11 μ10 => ?_)
            exact J_iret zd_H_count_98 rfl (Nat.le_of_ble_eq_true rfl) (Nat.le_of_ble_eq_true rfl)
          · skip
            refine J_swc (v := 5) (fun q5 => ?_) (fun q5 => ?_)
            · refine J_swIn (v := 5) zd_H_count_23 q5 (by decide) (by decide) (off := 76) (tgt := 99) (by decide) rfl ?_
              refine J_aload_n zd_H_count_99 rfl ?_
              refine J_gR zd_H_count_100 zf_H_26 rfl (fun r12 => ?_)
              refine J_callVi (ci := 11) (as := []) zd_H_count_103 zm_AL_size ⟨Nat.le_of_ble_eq_true rfl, Nat.le_of_ble_eq_true rfl⟩ zw_225 zw_226 zw_227 (by decide) rfl rfl (Nat.le_of_ble_eq_true rfl) ⟨Nat.le_of_ble_eq_true rfl, Nat.le_of_ble_eq_true rfl⟩ rfl rfl (c_AL_size E _ _) (fun v14 μ13 => ?_)
              exact J_iret zd_H_count_106 rfl (Nat.le_of_ble_eq_true rfl) (Nat.le_of_ble_eq_true rfl)
            · skip
              refine J_swc (v := 6) (fun q6 => ?_) (fun q6 => ?_)
              · refine J_swIn (v := 6) zd_H_count_23 q6 (by decide) (by decide) (off := 84) (tgt := 107) (by decide) rfl ?_
                refine J_aload_n zd_H_count_107 rfl ?_
                refine J_gR zd_H_count_108 zf_H_29 rfl (fun r15 => ?_)
                refine J_callVi (ci := 11) (as := []) zd_H_count_111 zm_AL_size ⟨Nat.le_of_ble_eq_true rfl, Nat.le_of_ble_eq_true rfl⟩ zw_225 zw_226 zw_227 (by decide) rfl rfl (Nat.le_of_ble_eq_true rfl) ⟨Nat.le_of_ble_eq_true rfl, Nat.le_of_ble_eq_true rfl⟩ rfl rfl (c_AL_size E _ _) (fun v17 μ16 => ?_)
                exact J_iret zd_H_count_114 rfl (Nat.le_of_ble_eq_true rfl) (Nat.le_of_ble_eq_true rfl)
              · skip
                refine J_swc (v := 7) (fun q7 => ?_) (fun q7 => ?_)
                · refine J_swIn (v := 7) zd_H_count_23 q7 (by decide) (by decide) (off := 92) (tgt := 115) (by decide) rfl ?_
                  refine J_aload_n zd_H_count_115 rfl ?_
                  refine J_callVi (ci := 9) (as := []) zd_H_count_116 zm_H_stationsCovered ⟨Nat.le_of_ble_eq_true rfl, Nat.le_of_ble_eq_true rfl⟩ zw_683 zw_685 zs_21 (by decide) rfl rfl (Nat.le_of_ble_eq_true rfl) ⟨Nat.le_of_ble_eq_true rfl, Nat.le_of_ble_eq_true rfl⟩ rfl rfl (c_H_stationsCovered E _ _) (fun v19 μ18 => ?_)
                  exact J_iret zd_H_count_119 rfl (Nat.le_of_ble_eq_true rfl) (Nat.le_of_ble_eq_true rfl)
                · skip
                  refine J_swOut (tgt := 120) zd_H_count_23 (sw_out [0, 1, 2, 3, 4, 5, 6, 7] (List.forall_mem_cons.mpr ⟨q0, List.forall_mem_cons.mpr ⟨q1, List.forall_mem_cons.mpr ⟨q2, List.forall_mem_cons.mpr ⟨q3, List.forall_mem_cons.mpr ⟨q4, List.forall_mem_cons.mpr ⟨q5, List.forall_mem_cons.mpr ⟨q6, List.forall_mem_cons.mpr ⟨q7, fun _ h => absurd h List.not_mem_nil⟩⟩⟩⟩⟩⟩⟩⟩) (by decide +kernel)) rfl ?_
                  refine J_bipush (v := (-9)) zd_H_count_120 (by decide) ?_
                  exact J_iret zd_H_count_122 rfl (Nat.le_of_ble_eq_true rfl) (Nat.le_of_ble_eq_true rfl)
def f_H_count (a0 : Nat) (a1 : Int32) (μ : Mem) : Option (LV × Mem) := (if a1 < 11 then (b_H_count_22 a0 a1 μ) else (if 16 < a1 then (b_H_count_22 a0 a1 μ) else gR 9 a0 11 μ (fun r20 => aI r20 (a1 - 10) μ (fun v21 => (some (.inl v21, μ))))))
set_option maxRecDepth 20000 in
theorem c_H_count (E : EV) (a0 : Nat) (a1 : Int32) (μ : Mem) : Ct E I_H_count (rmk 6 0 0) [.inr a0, .inl a1] μ (f_H_count a0 a1 μ) := by
  refine Ct.of (k := 0) (by decide +kernel) rfl ?_
  show J E I_H_count (rmk 6 0 0) (QR E I_H_count (rmk 6 0 0)) 0 0 μ 0 [some (.inr a0), some (.inl a1)] [] (f_H_count a0 a1 μ)
  unfold f_H_count
  refine J_iload_n zd_H_count_0 rfl ?_
  refine J_bipush (v := 11) zd_H_count_1 (by decide) ?_
  refine J_icmp_lt (tgt := 22) zd_H_count_3 rfl ?_ ?_
  · refine J_wid (k := 0) (n := 0) (Nat.le_of_ble_eq_true rfl) (Nat.le_of_ble_eq_true rfl) ?_
    refine J_keep [true, true] rfl ?_
    exact j_H_count_22 E _ _ _
  · refine J_iload_n zd_H_count_6 rfl ?_
    refine J_bipush (v := 16) zd_H_count_7 (by decide) ?_
    refine J_icmp_gt (tgt := 22) zd_H_count_9 rfl ?_ ?_
    · refine J_wid (k := 0) (n := 0) (Nat.le_of_ble_eq_true rfl) (Nat.le_of_ble_eq_true rfl) ?_
      refine J_keep [true, true] rfl ?_
      exact j_H_count_22 E _ _ _
    · refine J_aload_n zd_H_count_12 rfl ?_
      refine J_gR zd_H_count_13 zf_H_67 rfl (fun r20 => ?_)
      refine J_iload_n zd_H_count_16 rfl ?_
      refine J_bipush (v := 10) zd_H_count_17 (by decide) ?_
      refine J_isub zd_H_count_19 ?_
      refine J_aI zd_H_count_20 (fun v21 => ?_)
      exact J_iret zd_H_count_21 rfl (Nat.le_of_ble_eq_true rfl) (Nat.le_of_ble_eq_true rfl)
