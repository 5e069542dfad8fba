/-! functions and walks, by program: model -/
def k_M_init_269 (c291 : Nat → Mem → Option (LV × Mem)) (a0 : Nat) : Nat → Int32 → Mem → Option (LV × Mem)
  | 0, _, _ => none
  | n + 1, a1, μ => (if 6 ≤ a1 then (c291 a0 μ) else gR 10 a0 7 μ (fun r1 => aS r1 a1 (40 * a1) μ (fun μ2 => (k_M_init_269 c291 a0 n (a1 + 1) μ2))))
set_option maxRecDepth 20000 in
theorem j_M_init_269 (E : EV) (a0 : Nat) {c291 : Nat → Mem → Option (LV × Mem)} (h291 : ∀ (b0 : Nat)  (μ : Mem), J E I_M_init (rmk 1 31 3882) (QR E I_M_init (rmk 1 31 3882)) 31 3882 μ 291 [some (.inr b0), none] [] (c291 b0 μ)) : ∀ (n : Nat) (a1 : Int32) (μ : Mem), J E I_M_init (rmk 1 31 3882) (QR E I_M_init (rmk 1 31 3882)) 31 3882 μ 269 [some (.inr a0), some (.inl a1)] [] (k_M_init_269 c291 a0 n a1 μ)
  | 0, _, _ => J_none
  | n + 1, a1, μ => by
    show J E I_M_init (rmk 1 31 3882) (QR E I_M_init (rmk 1 31 3882)) 31 3882 μ 269 [some (.inr a0), some (.inl a1)] [] ((if 6 ≤ a1 then (c291 a0 μ) else gR 10 a0 7 μ (fun r1 => aS r1 a1 (40 * a1) μ (fun μ2 => (k_M_init_269 c291 a0 n (a1 + 1) μ2)))))
    refine J_iload_n zd_M_init_269 rfl ?_
    refine J_bipush (v := 6) zd_M_init_270 (by decide) ?_
    refine J_icmp_ge (tgt := 291) zd_M_init_272 rfl ?_ ?_
    · refine J_wid (k := 31) (n := 3882) (Nat.le_of_ble_eq_true rfl) (Nat.le_of_ble_eq_true rfl) ?_
      refine J_keep [true, false] rfl ?_
      exact h291 _ _
    · refine J_aload_n zd_M_init_275 rfl ?_
      refine J_gR zd_M_init_276 zf_M_16 rfl (fun r1 => ?_)
      refine J_iload_n zd_M_init_279 rfl ?_
      refine J_bipush (v := 40) zd_M_init_280 (by decide) ?_
      refine J_iload_n zd_M_init_282 rfl ?_
      refine J_imul zd_M_init_283 ?_
      refine J_aS zd_M_init_284 (fun μ2 => ?_)
      refine J_iinc (v := _ + 1) (lv' := [some _, some _]) zd_M_init_285 (Nat.le_of_ble_eq_true rfl) rfl (by rfl) rfl ?_
      refine J_goto (tgt := 269) zd_M_init_288 rfl ?_
      refine J_wid (k := 31) (n := 3882) (Nat.le_of_ble_eq_true rfl) (Nat.le_of_ble_eq_true rfl) ?_
      refine J_keep [true, true] rfl ?_
      exact j_M_init_269 E a0 h291 n _ _
def k_M_init_293  (a0 : Nat) : Nat → Int32 → Mem → Option (LV × Mem)
  | 0, _, _ => none
  | n + 1, a1, μ => (if 25 ≤ a1 then (some (.inl 0, μ)) else gR 10 a0 15 μ (fun r3 => aS r3 a1 (-1) μ (fun μ4 => (k_M_init_293 a0 n (a1 + 1) μ4))))
set_option maxRecDepth 20000 in
theorem j_M_init_293 (E : EV) (a0 : Nat)  : ∀ (n : Nat) (a1 : Int32) (μ : Mem), J E I_M_init (rmk 1 31 3882) (QR E I_M_init (rmk 1 31 3882)) 31 3882 μ 293 [some (.inr a0), some (.inl a1)] [] (k_M_init_293 a0 n a1 μ)
  | 0, _, _ => J_none
  | n + 1, a1, μ => by
    show J E I_M_init (rmk 1 31 3882) (QR E I_M_init (rmk 1 31 3882)) 31 3882 μ 293 [some (.inr a0), some (.inl a1)] [] ((if 25 ≤ a1 then (some (.inl 0, μ)) else gR 10 a0 15 μ (fun r3 => aS r3 a1 (-1) μ (fun μ4 => (k_M_init_293 a0 n (a1 + 1) μ4)))))
    refine J_iload_n zd_M_init_293 rfl ?_
    refine J_bipush (v := 25) zd_M_init_294 (by decide) ?_
    refine J_icmp_ge (tgt := 312) zd_M_init_296 rfl ?_ ?_
    · exact J_vret zd_M_init_312 rfl (Nat.le_of_ble_eq_true rfl) (Nat.le_of_ble_eq_true rfl)
    · refine J_aload_n zd_M_init_299 rfl ?_
      refine J_gR zd_M_init_300 zf_M_41 rfl (fun r3 => ?_)
      refine J_iload_n zd_M_init_303 rfl ?_
      refine J_iconst (v := (-1)) zd_M_init_304 (by decide) ?_
      refine J_aS zd_M_init_305 (fun μ4 => ?_)
      refine J_iinc (v := _ + 1) (lv' := [some _, some _]) zd_M_init_306 (Nat.le_of_ble_eq_true rfl) rfl (by rfl) rfl ?_
      refine J_goto (tgt := 293) zd_M_init_309 rfl ?_
      refine J_wid (k := 31) (n := 3882) (Nat.le_of_ble_eq_true rfl) (Nat.le_of_ble_eq_true rfl) ?_
      refine J_keep [true, true] rfl ?_
      exact j_M_init_293 E a0 n _ _
def b_M_init_291  (a0 : Nat)  (μ : Mem) : Option (LV × Mem) := (k_M_init_293 a0 120000 0 μ)
set_option maxRecDepth 20000 in
theorem j_M_init_291 (E : EV) (a0 : Nat)  (μ : Mem)  : J E I_M_init (rmk 1 31 3882) (QR E I_M_init (rmk 1 31 3882)) 31 3882 μ 291 [some (.inr a0), none] [] (b_M_init_291 a0 μ) := by
  unfold b_M_init_291
  refine J_iconst (v := 0) zd_M_init_291 (by decide) ?_
  refine J_istore_n (lv' := [some _, some _]) zd_M_init_292 (Nat.le_of_ble_eq_true rfl) rfl ?_
  refine J_wid (k := 31) (n := 3882) (Nat.le_of_ble_eq_true rfl) (Nat.le_of_ble_eq_true rfl) ?_
  refine J_keep [true, true] rfl ?_
  exact j_M_init_293 E _ _ _ _
def f_M_init (a0 : Nat) (μ : Mem) : Option (LV × Mem) := cN a0 (pI 10 a0 5 4 μ (fun μ5 => pI 10 a0 6 9 μ5 (fun μ6 => nO μ6 (0, 6) (fun h7 μ8 => pR 10 a0 7 h7 μ8 (fun μ9 => nO μ9 (0, 6) (fun h10 μ11 => pR 10 a0 8 h10 μ11 (fun μ12 => nO μ12 (0, 40) (fun h13 μ14 => pR 10 a0 9 h13 μ14 (fun μ15 => nO μ15 (0, 40) (fun h16 μ17 => pR 10 a0 10 h16 μ17 (fun μ18 => nO μ18 (0, 40) (fun h19 μ20 => pR 10 a0 11 h19 μ20 (fun μ21 => nO μ21 (0, 40) (fun h22 μ23 => pR 10 a0 12 h22 μ23 (fun μ24 => nO μ24 (0, 320) (fun h25 μ26 => pR 10 a0 13 h25 μ26 (fun μ27 => nO μ27 (0, 320) (fun h28 μ29 => pR 10 a0 14 h28 μ29 (fun μ30 => nO μ30 (0, 25) (fun h31 μ32 => pR 10 a0 15 h31 μ32 (fun μ33 => nO μ33 (0, 8) (fun h34 μ35 => pR 10 a0 16 h34 μ35 (fun μ36 => nO μ36 (0, 8) (fun h37 μ38 => pR 10 a0 17 h37 μ38 (fun μ39 => nO μ39 (0, 8) (fun h40 μ41 => pR 10 a0 18 h40 μ41 (fun μ42 => nO μ42 (0, 40) (fun h43 μ44 => pR 10 a0 19 h43 μ44 (fun μ45 => nO μ45 (0, 20) (fun h46 μ47 => pR 10 a0 20 h46 μ47 (fun μ48 => nO μ48 (0, 20) (fun h49 μ50 => pR 10 a0 21 h49 μ50 (fun μ51 => nO μ51 (0, 20) (fun h52 μ53 => pR 10 a0 22 h52 μ53 (fun μ54 => nO μ54 (0, 40) (fun h55 μ56 => pR 10 a0 23 h55 μ56 (fun μ57 => nO μ57 (0, 40) (fun h58 μ59 => pR 10 a0 24 h58 μ59 (fun μ60 => nO μ60 (0, 40) (fun h61 μ62 => pR 10 a0 25 h61 μ62 (fun μ63 => nO μ63 (0, 40) (fun h64 μ65 => pR 10 a0 26 h64 μ65 (fun μ66 => nO μ66 (0, 40) (fun h67 μ68 => pR 10 a0 27 h67 μ68 (fun μ69 => nO μ69 (0, 12) (fun h70 μ71 => pR 10 a0 28 h70 μ71 (fun μ72 => nO μ72 (0, 12) (fun h73 μ74 => pR 10 a0 29 h73 μ74 (fun μ75 => nO μ75 (0, 20) (fun h76 μ77 => pR 10 a0 30 h76 μ77 (fun μ78 => nO μ78 (0, 7) (fun h79 μ80 => pR 10 a0 31 h79 μ80 (fun μ81 => nO μ81 (0, 1323) (fun h82 μ83 => pR 10 a0 32 h82 μ83 (fun μ84 => nO μ84 (0, 1323) (fun h85 μ86 => pR 10 a0 33 h85 μ86 (fun μ87 => nO μ87 (0, 6) (fun h88 μ89 => pR 10 a0 34 h88 μ89 (fun μ90 => nO μ90 (0, 6) (fun h91 μ92 => pR 10 a0 35 h91 μ92 (fun μ93 => nO μ93 (0, 6) (fun h94 μ95 => pR 10 a0 36 h94 μ95 (fun μ96 => nO μ96 (0, 6) (fun h97 μ98 => pR 10 a0 37 h97 μ98 (fun μ99 => (k_M_init_269 (fun b0 m_ => b_M_init_291 b0 m_) a0 120000 0 μ99))))))))))))))))))))))))))))))))))))))))))))))))))))))))))))))))))
set_option maxRecDepth 20000 in
theorem c_M_init (E : EV) (a0 : Nat) (μ : Mem) : Ct E I_M_init (rmk 1 31 3882) [.inr a0] μ (f_M_init a0 μ) := by
  refine Ct.of (k := 1) (by decide +kernel) rfl ?_
  show J E I_M_init (rmk 1 31 3882) (QR E I_M_init (rmk 1 31 3882)) 0 0 μ 0 [some (.inr a0), none] [] (f_M_init a0 μ)
  unfold f_M_init
  refine J_aload_n zd_M_init_0 rfl ?_
  refine J_obj zd_M_init_1 zw_692 zw_27 zw_28 (Nat.le_of_ble_eq_true rfl) (Nat.le_of_ble_eq_true rfl) (Nat.le_of_ble_eq_true rfl) ?_
  refine J_aload_n zd_M_init_4 rfl ?_
  refine J_iconst (v := 4) zd_M_init_5 (by decide) ?_
  refine J_pI zd_M_init_6 zf_M_7 ⟨zt_M, zn_M, Or.inl rfl⟩ rfl rfl (fun μ5 => ?_)
  refine J_aload_n zd_M_init_9 rfl ?_
  refine J_bipush (v := 9) zd_M_init_10 (by decide) ?_
  refine J_pI zd_M_init_12 zf_M_13 ⟨zt_M, zn_M, Or.inl rfl⟩ rfl rfl (fun μ6 => ?_)
  refine J_aload_n zd_M_init_15 rfl ?_
  refine J_bipush (v := 6) zd_M_init_16 (by decide) ?_
  refine J_newa zd_M_init_18 zw_55 (by decide) (N := 6) (by decide) (by decide) (Nat.le_of_ble_eq_true rfl) (Nat.le_of_ble_eq_true rfl) (fun h7 μ8 => ?_)
  refine J_pR zd_M_init_20 zf_M_16 ⟨zt_M, zn_M, Or.inr ⟨rfl, rfl, rfl⟩⟩ (Or.inr ⟨_, rfl⟩) rfl (fun μ9 => ?_)
  refine J_aload_n zd_M_init_23 rfl ?_
  refine J_bipush (v := 6) zd_M_init_24 (by decide) ?_
  refine J_newa zd_M_init_26 zw_55 (by decide) (N := 6) (by decide) (by decide) (Nat.le_of_ble_eq_true rfl) (Nat.le_of_ble_eq_true rfl) (fun h10 μ11 => ?_)
  refine J_pR zd_M_init_28 zf_M_20 ⟨zt_M, zn_M, Or.inr ⟨rfl, rfl, rfl⟩⟩ (Or.inr ⟨_, rfl⟩) rfl (fun μ12 => ?_)
  refine J_aload_n zd_M_init_31 rfl ?_
  refine J_bipush (v := 40) zd_M_init_32 (by decide) ?_
  refine J_newa zd_M_init_34 zw_55 (by decide) (N := 40) (by decide) (by decide) (Nat.le_of_ble_eq_true rfl) (Nat.le_of_ble_eq_true rfl) (fun h13 μ14 => ?_)
  refine J_pR zd_M_init_36 zf_M_23 ⟨zt_M, zn_M, Or.inr ⟨rfl, rfl, rfl⟩⟩ (Or.inr ⟨_, rfl⟩) rfl (fun μ15 => ?_)
  refine J_aload_n zd_M_init_39 rfl ?_
  refine J_bipush (v := 40) zd_M_init_40 (by decide) ?_
  refine J_newa zd_M_init_42 zw_55 (by decide) (N := 40) (by decide) (by decide) (Nat.le_of_ble_eq_true rfl) (Nat.le_of_ble_eq_true rfl) (fun h16 μ17 => ?_)
  refine J_pR zd_M_init_44 zf_M_26 ⟨zt_M, zn_M, Or.inr ⟨rfl, rfl, rfl⟩⟩ (Or.inr ⟨_, rfl⟩) rfl (fun μ18 => ?_)
  refine J_aload_n zd_M_init_47 rfl ?_
  refine J_bipush (v := 40) zd_M_init_48 (by decide) ?_
  refine J_newa zd_M_init_50 zw_55 (by decide) (N := 40) (by decide) (by decide) (Nat.le_of_ble_eq_true rfl) (Nat.le_of_ble_eq_true rfl) (fun h19 μ20 => ?_)
  refine J_pR zd_M_init_52 zf_M_29 ⟨zt_M, zn_M, Or.inr ⟨rfl, rfl, rfl⟩⟩ (Or.inr ⟨_, rfl⟩) rfl (fun μ21 => ?_)
  refine J_aload_n zd_M_init_55 rfl ?_
  refine J_bipush (v := 40) zd_M_init_56 (by decide) ?_
  refine J_newa zd_M_init_58 zw_55 (by decide) (N := 40) (by decide) (by decide) (Nat.le_of_ble_eq_true rfl) (Nat.le_of_ble_eq_true rfl) (fun h22 μ23 => ?_)
  refine J_pR zd_M_init_60 zf_M_32 ⟨zt_M, zn_M, Or.inr ⟨rfl, rfl, rfl⟩⟩ (Or.inr ⟨_, rfl⟩) rfl (fun μ24 => ?_)
  refine J_aload_n zd_M_init_63 rfl ?_
  refine J_sipush (v := 320) zd_M_init_64 (by decide) ?_
  refine J_newa zd_M_init_67 zw_55 (by decide) (N := 320) (by decide) (by decide) (Nat.le_of_ble_eq_true rfl) (Nat.le_of_ble_eq_true rfl) (fun h25 μ26 => ?_)
  refine J_pR zd_M_init_69 zf_M_35 ⟨zt_M, zn_M, Or.inr ⟨rfl, rfl, rfl⟩⟩ (Or.inr ⟨_, rfl⟩) rfl (fun μ27 => ?_)
  refine J_aload_n zd_M_init_72 rfl ?_
  refine J_sipush (v := 320) zd_M_init_73 (by decide) ?_
  refine J_newa zd_M_init_76 zw_55 (by decide) (N := 320) (by decide) (by decide) (Nat.le_of_ble_eq_true rfl) (Nat.le_of_ble_eq_true rfl) (fun h28 μ29 => ?_)
  refine J_pR zd_M_init_78 zf_M_38 ⟨zt_M, zn_M, Or.inr ⟨rfl, rfl, rfl⟩⟩ (Or.inr ⟨_, rfl⟩) rfl (fun μ30 => ?_)
  refine J_aload_n zd_M_init_81 rfl ?_
  refine J_bipush (v := 25) zd_M_init_82 (by decide) ?_
  refine J_newa zd_M_init_84 zw_55 (by decide) (N := 25) (by decide) (by decide) (Nat.le_of_ble_eq_true rfl) (Nat.le_of_ble_eq_true rfl) (fun h31 μ32 => ?_)
  refine J_pR zd_M_init_86 zf_M_41 ⟨zt_M, zn_M, Or.inr ⟨rfl, rfl, rfl⟩⟩ (Or.inr ⟨_, rfl⟩) rfl (fun μ33 => ?_)
  refine J_aload_n zd_M_init_89 rfl ?_
  refine J_bipush (v := 8) zd_M_init_90 (by decide) ?_
  refine J_newa zd_M_init_92 zw_55 (by decide) (N := 8) (by decide) (by decide) (Nat.le_of_ble_eq_true rfl) (Nat.le_of_ble_eq_true rfl) (fun h34 μ35 => ?_)
  refine J_pR zd_M_init_94 zf_M_44 ⟨zt_M, zn_M, Or.inr ⟨rfl, rfl, rfl⟩⟩ (Or.inr ⟨_, rfl⟩) rfl (fun μ36 => ?_)
  refine J_aload_n zd_M_init_97 rfl ?_
  refine J_bipush (v := 8) zd_M_init_98 (by decide) ?_
  refine J_newa zd_M_init_100 zw_55 (by decide) (N := 8) (by decide) (by decide) (Nat.le_of_ble_eq_true rfl) (Nat.le_of_ble_eq_true rfl) (fun h37 μ38 => ?_)
  refine J_pR zd_M_init_102 zf_M_47 ⟨zt_M, zn_M, Or.inr ⟨rfl, rfl, rfl⟩⟩ (Or.inr ⟨_, rfl⟩) rfl (fun μ39 => ?_)
  refine J_aload_n zd_M_init_105 rfl ?_
  refine J_bipush (v := 8) zd_M_init_106 (by decide) ?_
  refine J_newa zd_M_init_108 zw_55 (by decide) (N := 8) (by decide) (by decide) (Nat.le_of_ble_eq_true rfl) (Nat.le_of_ble_eq_true rfl) (fun h40 μ41 => ?_)
  refine J_pR zd_M_init_110 zf_M_50 ⟨zt_M, zn_M, Or.inr ⟨rfl, rfl, rfl⟩⟩ (Or.inr ⟨_, rfl⟩) rfl (fun μ42 => ?_)
  refine J_aload_n zd_M_init_113 rfl ?_
  refine J_bipush (v := 40) zd_M_init_114 (by decide) ?_
  refine J_newa zd_M_init_116 zw_55 (by decide) (N := 40) (by decide) (by decide) (Nat.le_of_ble_eq_true rfl) (Nat.le_of_ble_eq_true rfl) (fun h43 μ44 => ?_)
  refine J_pR zd_M_init_118 zf_M_53 ⟨zt_M, zn_M, Or.inr ⟨rfl, rfl, rfl⟩⟩ (Or.inr ⟨_, rfl⟩) rfl (fun μ45 => ?_)
  refine J_aload_n zd_M_init_121 rfl ?_
  refine J_bipush (v := 20) zd_M_init_122 (by decide) ?_
  refine J_newa zd_M_init_124 zw_55 (by decide) (N := 20) (by decide) (by decide) (Nat.le_of_ble_eq_true rfl) (Nat.le_of_ble_eq_true rfl) (fun h46 μ47 => ?_)
  refine J_pR zd_M_init_126 zf_M_56 ⟨zt_M, zn_M, Or.inr ⟨rfl, rfl, rfl⟩⟩ (Or.inr ⟨_, rfl⟩) rfl (fun μ48 => ?_)
  refine J_aload_n zd_M_init_129 rfl ?_
  refine J_bipush (v := 20) zd_M_init_130 (by decide) ?_
  refine J_newa zd_M_init_132 zw_55 (by decide) (N := 20) (by decide) (by decide) (Nat.le_of_ble_eq_true rfl) (Nat.le_of_ble_eq_true rfl) (fun h49 μ50 => ?_)
  refine J_pR zd_M_init_134 zf_M_59 ⟨zt_M, zn_M, Or.inr ⟨rfl, rfl, rfl⟩⟩ (Or.inr ⟨_, rfl⟩) rfl (fun μ51 => ?_)
  refine J_aload_n zd_M_init_137 rfl ?_
  refine J_bipush (v := 20) zd_M_init_138 (by decide) ?_
  refine J_newa zd_M_init_140 zw_55 (by decide) (N := 20) (by decide) (by decide) (Nat.le_of_ble_eq_true rfl) (Nat.le_of_ble_eq_true rfl) (fun h52 μ53 => ?_)
  refine J_pR zd_M_init_142 zf_M_62 ⟨zt_M, zn_M, Or.inr ⟨rfl, rfl, rfl⟩⟩ (Or.inr ⟨_, rfl⟩) rfl (fun μ54 => ?_)
  refine J_aload_n zd_M_init_145 rfl ?_
  refine J_bipush (v := 40) zd_M_init_146 (by decide) ?_
  refine J_newa zd_M_init_148 zw_55 (by decide) (N := 40) (by decide) (by decide) (Nat.le_of_ble_eq_true rfl) (Nat.le_of_ble_eq_true rfl) (fun h55 μ56 => ?_)
  refine J_pR zd_M_init_150 zf_M_65 ⟨zt_M, zn_M, Or.inr ⟨rfl, rfl, rfl⟩⟩ (Or.inr ⟨_, rfl⟩) rfl (fun μ57 => ?_)
  refine J_aload_n zd_M_init_153 rfl ?_
  refine J_bipush (v := 40) zd_M_init_154 (by decide) ?_
  refine J_newa zd_M_init_156 zw_55 (by decide) (N := 40) (by decide) (by decide) (Nat.le_of_ble_eq_true rfl) (Nat.le_of_ble_eq_true rfl) (fun h58 μ59 => ?_)
  refine J_pR zd_M_init_158 zf_M_68 ⟨zt_M, zn_M, Or.inr ⟨rfl, rfl, rfl⟩⟩ (Or.inr ⟨_, rfl⟩) rfl (fun μ60 => ?_)
  refine J_aload_n zd_M_init_161 rfl ?_
  refine J_bipush (v := 40) zd_M_init_162 (by decide) ?_
  refine J_newa zd_M_init_164 zw_55 (by decide) (N := 40) (by decide) (by decide) (Nat.le_of_ble_eq_true rfl) (Nat.le_of_ble_eq_true rfl) (fun h61 μ62 => ?_)
  refine J_pR zd_M_init_166 zf_M_71 ⟨zt_M, zn_M, Or.inr ⟨rfl, rfl, rfl⟩⟩ (Or.inr ⟨_, rfl⟩) rfl (fun μ63 => ?_)
  refine J_aload_n zd_M_init_169 rfl ?_
  refine J_bipush (v := 40) zd_M_init_170 (by decide) ?_
  refine J_newa zd_M_init_172 zw_55 (by decide) (N := 40) (by decide) (by decide) (Nat.le_of_ble_eq_true rfl) (Nat.le_of_ble_eq_true rfl) (fun h64 μ65 => ?_)
  refine J_pR zd_M_init_174 zf_M_74 ⟨zt_M, zn_M, Or.inr ⟨rfl, rfl, rfl⟩⟩ (Or.inr ⟨_, rfl⟩) rfl (fun μ66 => ?_)
  refine J_aload_n zd_M_init_177 rfl ?_
  refine J_bipush (v := 40) zd_M_init_178 (by decide) ?_
  refine J_newa zd_M_init_180 zw_55 (by decide) (N := 40) (by decide) (by decide) (Nat.le_of_ble_eq_true rfl) (Nat.le_of_ble_eq_true rfl) (fun h67 μ68 => ?_)
  refine J_pR zd_M_init_182 zf_M_77 ⟨zt_M, zn_M, Or.inr ⟨rfl, rfl, rfl⟩⟩ (Or.inr ⟨_, rfl⟩) rfl (fun μ69 => ?_)
  refine J_aload_n zd_M_init_185 rfl ?_
  refine J_bipush (v := 12) zd_M_init_186 (by decide) ?_
  refine J_newa zd_M_init_188 zw_55 (by decide) (N := 12) (by decide) (by decide) (Nat.le_of_ble_eq_true rfl) (Nat.le_of_ble_eq_true rfl) (fun h70 μ71 => ?_)
  refine J_pR zd_M_init_190 zf_M_80 ⟨zt_M, zn_M, Or.inr ⟨rfl, rfl, rfl⟩⟩ (Or.inr ⟨_, rfl⟩) rfl (fun μ72 => ?_)
  refine J_aload_n zd_M_init_193 rfl ?_
  refine J_bipush (v := 12) zd_M_init_194 (by decide) ?_
  refine J_newa zd_M_init_196 zw_55 (by decide) (N := 12) (by decide) (by decide) (Nat.le_of_ble_eq_true rfl) (Nat.le_of_ble_eq_true rfl) (fun h73 μ74 => ?_)
  refine J_pR zd_M_init_198 zf_M_83 ⟨zt_M, zn_M, Or.inr ⟨rfl, rfl, rfl⟩⟩ (Or.inr ⟨_, rfl⟩) rfl (fun μ75 => ?_)
  refine J_aload_n zd_M_init_201 rfl ?_
  refine J_bipush (v := 20) zd_M_init_202 (by decide) ?_
  refine J_newa zd_M_init_204 zw_55 (by decide) (N := 20) (by decide) (by decide) (Nat.le_of_ble_eq_true rfl) (Nat.le_of_ble_eq_true rfl) (fun h76 μ77 => ?_)
  refine J_pR zd_M_init_206 zf_M_86 ⟨zt_M, zn_M, Or.inr ⟨rfl, rfl, rfl⟩⟩ (Or.inr ⟨_, rfl⟩) rfl (fun μ78 => ?_)
  refine J_aload_n zd_M_init_209 rfl ?_
  refine J_bipush (v := 7) zd_M_init_210 (by decide) ?_
  refine J_newa zd_M_init_212 zw_55 (by decide) (N := 7) (by decide) (by decide) (Nat.le_of_ble_eq_true rfl) (Nat.le_of_ble_eq_true rfl) (fun h79 μ80 => ?_)
  refine J_pR zd_M_init_214 zf_M_89 ⟨zt_M, zn_M, Or.inr ⟨rfl, rfl, rfl⟩⟩ (Or.inr ⟨_, rfl⟩) rfl (fun μ81 => ?_)
  refine J_aload_n zd_M_init_217 rfl ?_
  refine J_sipush (v := 1323) zd_M_init_218 (by decide) ?_
  refine J_newa zd_M_init_221 zw_55 (by decide) (N := 1323) (by decide) (by decide) (Nat.le_of_ble_eq_true rfl) (Nat.le_of_ble_eq_true rfl) (fun h82 μ83 => ?_)
  refine J_pR zd_M_init_223 zf_M_92 ⟨zt_M, zn_M, Or.inr ⟨rfl, rfl, rfl⟩⟩ (Or.inr ⟨_, rfl⟩) rfl (fun μ84 => ?_)
  refine J_aload_n zd_M_init_226 rfl ?_
  refine J_sipush (v := 1323) zd_M_init_227 (by decide) ?_
  refine J_newa zd_M_init_230 zw_55 (by decide) (N := 1323) (by decide) (by decide) (Nat.le_of_ble_eq_true rfl) (Nat.le_of_ble_eq_true rfl) (fun h85 μ86 => ?_)
  refine J_pR zd_M_init_232 zf_M_95 ⟨zt_M, zn_M, Or.inr ⟨rfl, rfl, rfl⟩⟩ (Or.inr ⟨_, rfl⟩) rfl (fun μ87 => ?_)
  refine J_aload_n zd_M_init_235 rfl ?_
  refine J_bipush (v := 6) zd_M_init_236 (by decide) ?_
  refine J_newa zd_M_init_238 zw_55 (by decide) (N := 6) (by decide) (by decide) (Nat.le_of_ble_eq_true rfl) (Nat.le_of_ble_eq_true rfl) (fun h88 μ89 => ?_)
  refine J_pR zd_M_init_240 zf_M_98 ⟨zt_M, zn_M, Or.inr ⟨rfl, rfl, rfl⟩⟩ (Or.inr ⟨_, rfl⟩) rfl (fun μ90 => ?_)
  refine J_aload_n zd_M_init_243 rfl ?_
  refine J_bipush (v := 6) zd_M_init_244 (by decide) ?_
  refine J_newa zd_M_init_246 zw_55 (by decide) (N := 6) (by decide) (by decide) (Nat.le_of_ble_eq_true rfl) (Nat.le_of_ble_eq_true rfl) (fun h91 μ92 => ?_)
  refine J_pR zd_M_init_248 zf_M_101 ⟨zt_M, zn_M, Or.inr ⟨rfl, rfl, rfl⟩⟩ (Or.inr ⟨_, rfl⟩) rfl (fun μ93 => ?_)
  refine J_aload_n zd_M_init_251 rfl ?_
  refine J_bipush (v := 6) zd_M_init_252 (by decide) ?_
  refine J_newa zd_M_init_254 zw_55 (by decide) (N := 6) (by decide) (by decide) (Nat.le_of_ble_eq_true rfl) (Nat.le_of_ble_eq_true rfl) (fun h94 μ95 => ?_)
  refine J_pR zd_M_init_256 zf_M_104 ⟨zt_M, zn_M, Or.inr ⟨rfl, rfl, rfl⟩⟩ (Or.inr ⟨_, rfl⟩) rfl (fun μ96 => ?_)
  refine J_aload_n zd_M_init_259 rfl ?_
  refine J_bipush (v := 6) zd_M_init_260 (by decide) ?_
  refine J_newa zd_M_init_262 zw_55 (by decide) (N := 6) (by decide) (by decide) (Nat.le_of_ble_eq_true rfl) (Nat.le_of_ble_eq_true rfl) (fun h97 μ98 => ?_)
  refine J_pR zd_M_init_264 zf_M_107 ⟨zt_M, zn_M, Or.inr ⟨rfl, rfl, rfl⟩⟩ (Or.inr ⟨_, rfl⟩) rfl (fun μ99 => ?_)
  refine J_iconst (v := 0) zd_M_init_267 (by decide) ?_
  refine J_istore_n (lv' := [some _, some _]) zd_M_init_268 (Nat.le_of_ble_eq_true rfl) rfl ?_
  refine J_wid (k := 31) (n := 3882) (Nat.le_of_ble_eq_true rfl) (Nat.le_of_ble_eq_true rfl) ?_
  refine J_keep [true, true] rfl ?_
  exact j_M_init_269 E _ (fun b0 m_ => j_M_init_291 E b0 m_) _ _ _
def f_M_isStation (a0 : Int32) (μ : Mem) : Option (LV × Mem) := (if a0 < 0 then (some (.inl 0, μ)) else (if 6 ≤ a0 then (some (.inl 0, μ)) else (some (.inl 1, μ))))
set_option maxRecDepth 20000 in
theorem c_M_isStation (E : EV) (a0 : Int32) (μ : Mem) : Ct E I_M_isStation (rmk 1 0 0) [.inl a0] μ (f_M_isStation a0 μ) := by
  refine Ct.of (k := 0) (by decide +kernel) rfl ?_
  show J E I_M_isStation (rmk 1 0 0) (QR E I_M_isStation (rmk 1 0 0)) 0 0 μ 0 [some (.inl a0)] [] (f_M_isStation a0 μ)
  unfold f_M_isStation
  refine J_iload_n zd_M_isStation_0 rfl ?_
  refine J_if_lt (tgt := 14) zd_M_isStation_1 rfl ?_ ?_
  · refine J_iconst (v := 0) zd_M_isStation_14 (by decide) ?_
    exact J_zret zd_M_isStation_15 rfl rfl (Nat.le_of_ble_eq_true rfl) (Nat.le_of_ble_eq_true rfl)
  · refine J_iload_n zd_M_isStation_4 rfl ?_
    refine J_bipush (v := 6) zd_M_isStation_5 (by decide) ?_
    refine J_icmp_ge (tgt := 14) zd_M_isStation_7 rfl ?_ ?_
    · refine J_iconst (v := 0) zd_M_isStation_14 (by decide) ?_
      exact J_zret zd_M_isStation_15 rfl rfl (Nat.le_of_ble_eq_true rfl) (Nat.le_of_ble_eq_true rfl)
    · refine J_iconst (v := 1) zd_M_isStation_10 (by decide) ?_
      refine J_goto (tgt := 15) zd_M_isStation_11 rfl ?_
      exact J_zret zd_M_isStation_15 rfl rfl (Nat.le_of_ble_eq_true rfl) (Nat.le_of_ble_eq_true rfl)
def f_M_no (a0 : Nat) (a1 : Int32) (μ : Mem) : Option (LV × Mem) := gR 10 a0 31 μ (fun r1 => aI r1 (-a1) μ (fun v2 => aS r1 (-a1) (v2 + 1) μ (fun μ3 => (some (.inl a1, μ3)))))
set_option maxRecDepth 20000 in
theorem c_M_no (E : EV) (a0 : Nat) (a1 : Int32) (μ : Mem) : Ct E I_M_no (rmk 1 0 0) [.inr a0, .inl a1] μ (f_M_no a0 a1 μ) := by
  refine Ct.of (k := 0) (by decide +kernel) rfl ?_
  show J E I_M_no (rmk 1 0 0) (QR E I_M_no (rmk 1 0 0)) 0 0 μ 0 [some (.inr a0), some (.inl a1)] [] (f_M_no a0 a1 μ)
  unfold f_M_no
  refine J_aload_n zd_M_no_0 rfl ?_
  refine J_gR zd_M_no_1 zf_M_89 rfl (fun r1 => ?_)
  refine J_iload_n zd_M_no_4 rfl ?_
  refine J_ineg zd_M_no_5 ?_
  refine J_dup2 zd_M_no_6 ?_
  refine J_aI zd_M_no_7 (fun v2 => ?_)
  refine J_iconst (v := 1) zd_M_no_8 (by decide) ?_
  refine J_iadd zd_M_no_9 ?_
  refine J_aS zd_M_no_10 (fun μ3 => ?_)
  refine J_iload_n zd_M_no_11 rfl ?_
  exact J_iret zd_M_no_12 rfl (Nat.le_of_ble_eq_true rfl) (Nat.le_of_ble_eq_true rfl)
def b_M_station_22  (a0 : Nat)  (μ : Mem) : Option (LV × Mem) := cV 10 a0 μ (bI (f_M_no a0 (-2) μ) (fun v2 μ1 => (some (.inl v2, μ1))))
set_option maxRecDepth 20000 in
theorem j_M_station_22 (E : EV) (a0 : Nat)  (μ : Mem)  : J E I_M_station (rmk 2 0 0) (QR E I_M_station (rmk 2 0 0)) 0 0 μ 22 [some (.inr a0), none, none, none, none] [] (b_M_station_22 a0 μ) := by
  unfold b_M_station_22
  refine J_aload_n zd_M_station_22 rfl ?_
  refine J_bipush (v := (-2)) zd_M_station_23 (by decide) ?_
  refine J_callVi (ci := 10) (as := [.inl _]) zd_M_station_25 zm_M_no ⟨Nat.le_of_ble_eq_true rfl, Nat.le_of_ble_eq_true rfl⟩ zw_821 zw_823 zs_22 (by decide) rfl rfl (Nat.le_of_ble_eq_true rfl) ⟨Nat.le_of_ble_eq_true rfl, Nat.le_of_ble_eq_true rfl⟩ rfl rfl (c_M_no E _ _ _) (fun v2 μ1 => ?_)
  exact J_iret zd_M_station_28 rfl (Nat.le_of_ble_eq_true rfl) (Nat.le_of_ble_eq_true rfl)
def b_M_station_82  (a0 : Nat) (a1 : Int32) (a2 : Int32) (a3 : Int32) (s0 : Int32) (μ : Mem) : Option (LV × Mem) := (if a2 = 0 then gR 10 a0 7 μ (fun r5 => aS r5 a1 a3 μ (fun μ6 => (some (.inl s0, μ6)))) else gR 10 a0 8 μ (fun r3 => aS r3 a1 a3 μ (fun μ4 => (some (.inl s0, μ4)))))
set_option maxRecDepth 20000 in
theorem j_M_station_82 (E : EV) (a0 : Nat) (a1 : Int32) (a2 : Int32) (a3 : Int32) (s0 : Int32) (μ : Mem)  : J E I_M_station (rmk 2 0 0) (QR E I_M_station (rmk 2 0 0)) 0 0 μ 82 [some (.inr a0), some (.inl a1), some (.inl a2), some (.inl a3), none] [.inl s0] (b_M_station_82 a0 a1 a2 a3 s0 μ) := by
  unfold b_M_station_82
  refine J_istore (lv' := [some _, some _, some _, some _, some _]) zd_M_station_82 (Nat.le_of_ble_eq_true rfl) rfl ?_
  refine J_iload_n zd_M_station_84 rfl ?_
  refine J_if_ne (tgt := 98) zd_M_station_85 rfl ?_ ?_
  · refine J_aload_n zd_M_station_98 rfl ?_
    refine J_gR zd_M_station_99 zf_M_20 rfl (fun r3 => ?_)
    refine J_iload_n zd_M_station_102 rfl ?_
    refine J_iload_n zd_M_station_103 rfl ?_
    refine J_aS zd_M_station_104 (fun μ4 => ?_)
    refine J_iload zd_M_station_105 rfl ?_
    exact J_iret zd_M_station_107 rfl (Nat.le_of_ble_eq_true rfl) (Nat.le_of_ble_eq_true rfl)
  · refine J_aload_n zd_M_station_88 rfl ?_
    refine J_gR zd_M_station_89 zf_M_16 rfl (fun r5 => ?_)
    refine J_iload_n zd_M_station_92 rfl ?_
    refine J_iload_n zd_M_station_93 rfl ?_
    refine J_aS zd_M_station_94 (fun μ6 => ?_)
    refine J_goto (tgt := 105) zd_M_station_95 rfl ?_
    refine J_iload zd_M_station_105 rfl ?_
    exact J_iret zd_M_station_107 rfl (Nat.le_of_ble_eq_true rfl) (Nat.le_of_ble_eq_true rfl)
def b_M_station_53  (a0 : Nat) (a1 : Int32) (a2 : Int32) (a3 : Int32) (s0 : Int32) (s1 : Int32) (μ : Mem) : Option (LV × Mem) := (if s1 ≤ s0 then (if a2 = 0 then gR 10 a0 7 μ (fun r9 => aI r9 a1 μ (fun v10 => (b_M_station_82 a0 a1 a2 a3 v10 μ))) else gR 10 a0 8 μ (fun r7 => aI r7 a1 μ (fun v8 => (b_M_station_82 a0 a1 a2 a3 v8 μ)))) else cV 10 a0 μ (bI (f_M_no a0 (-6) μ) (fun v12 μ11 => (some (.inl v12, μ11)))))
set_option maxRecDepth 20000 in
theorem j_M_station_53 (E : EV) (a0 : Nat) (a1 : Int32) (a2 : Int32) (a3 : Int32) (s0 : Int32) (s1 : Int32) (μ : Mem)  : J E I_M_station (rmk 2 0 0) (QR E I_M_station (rmk 2 0 0)) 0 0 μ 53 [some (.inr a0), some (.inl a1), some (.inl a2), some (.inl a3), none] [.inl s0, .inl s1] (b_M_station_53 a0 a1 a2 a3 s0 s1 μ) := by
  unfold b_M_station_53
  refine J_icmp_le (tgt := 63) zd_M_station_53 rfl ?_ ?_
  · refine J_iload_n zd_M_station_63 rfl ?_
    refine J_if_ne (tgt := 76) zd_M_station_64 rfl ?_ ?_
    · refine J_aload_n zd_M_station_76 rfl ?_
      refine J_gR zd_M_station_77 zf_M_20 rfl (fun r7 => ?_)
      refine J_iload_n zd_M_station_80 rfl ?_
      refine J_aI zd_M_station_81 (fun v8 => ?_)
      refine J_wid (k := 0) (n := 0) (Nat.le_of_ble_eq_true rfl) (Nat.le_of_ble_eq_true rfl) ?_
      refine J_keep [true, true, true, true, false] rfl ?_
      exact j_M_station_82 E _ _ _ _ _ _
    · refine J_aload_n zd_M_station_67 rfl ?_
      refine J_gR zd_M_station_68 zf_M_16 rfl (fun r9 => ?_)
      refine J_iload_n zd_M_station_71 rfl ?_
      refine J_aI zd_M_station_72 (fun v10 => ?_)
      refine J_goto (tgt := 82) zd_M_station_73 rfl ?_
      refine J_wid (k := 0) (n := 0) (Nat.le_of_ble_eq_true rfl) (Nat.le_of_ble_eq_true rfl) ?_
      refine J_keep [true, true, true, true, false] rfl ?_
      exact j_M_station_82 E _ _ _ _ _ _
  · refine J_aload_n zd_M_station_56 rfl ?_
    refine J_bipush (v := (-6)) zd_M_station_57 (by decide) ?_
    refine J_callVi (ci := 10) (as := [.inl _]) zd_M_station_59 zm_M_no ⟨Nat.le_of_ble_eq_true rfl, Nat.le_of_ble_eq_true rfl⟩ zw_821 zw_823 zs_22 (by decide) rfl rfl (Nat.le_of_ble_eq_true rfl) ⟨Nat.le_of_ble_eq_true rfl, Nat.le_of_ble_eq_true rfl⟩ rfl rfl (c_M_no E _ _ _) (fun v12 μ11 => ?_)
    exact J_iret zd_M_station_62 rfl (Nat.le_of_ble_eq_true rfl) (Nat.le_of_ble_eq_true rfl)
def f_M_station (a0 : Nat) (a1 : Int32) (a2 : Int32) (a3 : Int32) (μ : Mem) : Option (LV × Mem) := bI (f_M_isStation a1 μ) (fun v14 μ13 => (if v14 = 0 then cV 10 a0 μ13 (bI (f_M_no a0 (-1) μ13) (fun v18 μ17 => (some (.inl v18, μ17)))) else (if a2 < 0 then (b_M_station_22 a0 μ13) else (if a2 ≤ 1 then (if 0 ≤ a3 then (if a2 = 0 then (b_M_station_53 a0 a1 a2 a3 300 a3 μ13) else (b_M_station_53 a0 a1 a2 a3 12 a3 μ13)) else cV 10 a0 μ13 (bI (f_M_no a0 (-4) μ13) (fun v16 μ15 => (some (.inl v16, μ15))))) else (b_M_station_22 a0 μ13)))))
set_option maxRecDepth 20000 in
theorem c_M_station (E : EV) (a0 : Nat) (a1 : Int32) (a2 : Int32) (a3 : Int32) (μ : Mem) : Ct E I_M_station (rmk 2 0 0) [.inr a0, .inl a1, .inl a2, .inl a3] μ (f_M_station a0 a1 a2 a3 μ) := by
  refine Ct.of (k := 1) (by decide +kernel) rfl ?_
  show J E I_M_station (rmk 2 0 0) (QR E I_M_station (rmk 2 0 0)) 0 0 μ 0 [some (.inr a0), some (.inl a1), some (.inl a2), some (.inl a3), none] [] (f_M_station a0 a1 a2 a3 μ)
  unfold f_M_station
  refine J_iload_n zd_M_station_0 rfl ?_
  refine J_callSi (as := [.inl _]) zd_M_station_1 zm_M_isStation ⟨Nat.le_of_ble_eq_true rfl, Nat.le_of_ble_eq_true rfl⟩ zw_818 zw_819 rfl (Nat.le_of_ble_eq_true rfl) ⟨Nat.le_of_ble_eq_true rfl, Nat.le_of_ble_eq_true rfl⟩ rfl rfl (c_M_isStation E _ _) (fun v14 μ13 => ?_)
  refine J_if_ne (tgt := 13) zd_M_station_4 rfl ?_ ?_
  · refine J_iload_n zd_M_station_13 rfl ?_
    refine J_if_lt (tgt := 22) zd_M_station_14 rfl ?_ ?_
    · refine J_wid (k := 0) (n := 0) (Nat.le_of_ble_eq_true rfl) (Nat.le_of_ble_eq_true rfl) ?_
      refine J_keep [true, false, false, false, false] rfl ?_
      exact j_M_station_22 E _ _
    · refine J_iload_n zd_M_station_17 rfl ?_
      refine J_iconst (v := 1) zd_M_station_18 (by decide) ?_
      refine J_icmp_le (tgt := 29) zd_M_station_19 rfl ?_ ?_
      · refine J_iload_n zd_M_station_29 rfl ?_
        refine J_if_ge (tgt := 40) zd_M_station_30 rfl ?_ ?_
        · refine J_iload_n zd_M_station_40 rfl ?_
          refine J_iload_n zd_M_station_41 rfl ?_
          refine J_if_ne (tgt := 51) zd_M_station_42 rfl ?_ ?_
          · refine J_bipush (v := 12) zd_M_station_51 (by decide) ?_
            refine J_wid (k := 0) (n := 0) (Nat.le_of_ble_eq_true rfl) (Nat.le_of_ble_eq_true rfl) ?_
            refine J_keep [true, true, true, true, false] rfl ?_
            exact j_M_station_53 E _ _ _ _ _ _ _
          · refine J_sipush (v := 300) zd_M_station_45 (by decide) ?_
            refine J_goto (tgt := 53) zd_M_station_48 rfl ?_
            refine J_wid (k := 0) (n := 0) (Nat.le_of_ble_eq_true rfl) (Nat.le_of_ble_eq_true rfl) ?_
            refine J_keep [true, true, true, true, false] rfl ?_
            exact j_M_station_53 E _ _ _ _ _ _ _
        · refine J_aload_n zd_M_station_33 rfl ?_
          refine J_bipush (v := (-4)) zd_M_station_34 (by decide) ?_
          refine J_callVi (ci := 10) (as := [.inl _]) zd_M_station_36 zm_M_no ⟨Nat.le_of_ble_eq_true rfl, Nat.le_of_ble_eq_true rfl⟩ zw_821 zw_823 zs_22 (by decide) rfl rfl (Nat.le_of_ble_eq_true rfl) ⟨Nat.le_of_ble_eq_true rfl, Nat.le_of_ble_eq_true rfl⟩ rfl rfl (c_M_no E _ _ _) (fun v16 μ15 => ?_)
          exact J_iret zd_M_station_39 rfl (Nat.le_of_ble_eq_true rfl) (Nat.le_of_ble_eq_true rfl)
      · refine J_wid (k := 0) (n := 0) (Nat.le_of_ble_eq_true rfl) (Nat.le_of_ble_eq_true rfl) ?_
        refine J_keep [true, false, false, false, false] rfl ?_
        exact j_M_station_22 E _ _
  · refine J_aload_n zd_M_station_7 rfl ?_
    refine J_iconst (v := (-1)) zd_M_station_8 (by decide) ?_
    refine J_callVi (ci := 10) (as := [.inl _]) zd_M_station_9 zm_M_no ⟨Nat.le_of_ble_eq_true rfl, Nat.le_of_ble_eq_true rfl⟩ zw_821 zw_823 zs_22 (by decide) rfl rfl (Nat.le_of_ble_eq_true rfl) ⟨Nat.le_of_ble_eq_true rfl, Nat.le_of_ble_eq_true rfl⟩ rfl rfl (c_M_no E _ _ _) (fun v18 μ17 => ?_)
    exact J_iret zd_M_station_12 rfl (Nat.le_of_ble_eq_true rfl) (Nat.le_of_ble_eq_true rfl)
def b_M_person_21  (a0 : Nat)  (μ : Mem) : Option (LV × Mem) := cV 10 a0 μ (bI (f_M_no a0 (-4) μ) (fun v2 μ1 => (some (.inl v2, μ1))))
set_option maxRecDepth 20000 in
theorem j_M_person_21 (E : EV) (a0 : Nat)  (μ : Mem)  : J E I_M_person (rmk 2 0 0) (QR E I_M_person (rmk 2 0 0)) 0 0 μ 21 [some (.inr a0), none, none, none] [] (b_M_person_21 a0 μ) := by
  unfold b_M_person_21
  refine J_aload_n zd_M_person_21 rfl ?_
  refine J_bipush (v := (-4)) zd_M_person_22 (by decide) ?_
  refine J_callVi (ci := 10) (as := [.inl _]) zd_M_person_24 zm_M_no ⟨Nat.le_of_ble_eq_true rfl, Nat.le_of_ble_eq_true rfl⟩ zw_821 zw_823 zs_22 (by decide) rfl rfl (Nat.le_of_ble_eq_true rfl) ⟨Nat.le_of_ble_eq_true rfl, Nat.le_of_ble_eq_true rfl⟩ rfl rfl (c_M_no E _ _ _) (fun v2 μ1 => ?_)
  exact J_iret zd_M_person_27 rfl (Nat.le_of_ble_eq_true rfl) (Nat.le_of_ble_eq_true rfl)
def b_M_person_50  (a0 : Nat)  (μ : Mem) : Option (LV × Mem) := cV 10 a0 μ (bI (f_M_no a0 (-6) μ) (fun v4 μ3 => (some (.inl v4, μ3))))
set_option maxRecDepth 20000 in
theorem j_M_person_50 (E : EV) (a0 : Nat)  (μ : Mem)  : J E I_M_person (rmk 2 0 0) (QR E I_M_person (rmk 2 0 0)) 0 0 μ 50 [some (.inr a0), none, none, none] [] (b_M_person_50 a0 μ) := by
  unfold b_M_person_50
  refine J_aload_n zd_M_person_50 rfl ?_
  refine J_bipush (v := (-6)) zd_M_person_51 (by decide) ?_
  refine J_callVi (ci := 10) (as := [.inl _]) zd_M_person_53 zm_M_no ⟨Nat.le_of_ble_eq_true rfl, Nat.le_of_ble_eq_true rfl⟩ zw_821 zw_823 zs_22 (by decide) rfl rfl (Nat.le_of_ble_eq_true rfl) ⟨Nat.le_of_ble_eq_true rfl, Nat.le_of_ble_eq_true rfl⟩ rfl rfl (c_M_no E _ _ _) (fun v4 μ3 => ?_)
  exact J_iret zd_M_person_56 rfl (Nat.le_of_ble_eq_true rfl) (Nat.le_of_ble_eq_true rfl)
def f_M_person (a0 : Nat) (a1 : Int32) (a2 : Int32) (a3 : Int32) (μ : Mem) : Option (LV × Mem) := bI (f_M_isStation a1 μ) (fun v6 μ5 => (if v6 = 0 then cV 10 a0 μ5 (bI (f_M_no a0 (-1) μ5) (fun v20 μ19 => (some (.inl v20, μ19)))) else (if a2 < 0 then (b_M_person_21 a0 μ5) else (if 0 ≤ a3 then (if 15 < a2 then (b_M_person_50 a0 μ5) else (if 200 < a3 then (b_M_person_50 a0 μ5) else gI 10 a0 1 μ5 (fun v7 => (if v7 = 40 then (b_M_person_50 a0 μ5) else gR 10 a0 9 μ5 (fun r8 => gI 10 a0 1 μ5 (fun v9 => aS r8 v9 a1 μ5 (fun μ10 => gR 10 a0 10 μ10 (fun r11 => gI 10 a0 1 μ10 (fun v12 => aS r11 v12 a2 μ10 (fun μ13 => gR 10 a0 11 μ13 (fun r14 => gI 10 a0 1 μ13 (fun v15 => aS r14 v15 a3 μ13 (fun μ16 => gI 10 a0 1 μ16 (fun v17 => pI 10 a0 1 (v17 + 1) μ16 (fun μ18 => (some (.inl v17, μ18))))))))))))))))) else (b_M_person_21 a0 μ5)))))
set_option maxRecDepth 20000 in
theorem c_M_person (E : EV) (a0 : Nat) (a1 : Int32) (a2 : Int32) (a3 : Int32) (μ : Mem) : Ct E I_M_person (rmk 2 0 0) [.inr a0, .inl a1, .inl a2, .inl a3] μ (f_M_person a0 a1 a2 a3 μ) := by
  refine Ct.of (k := 0) (by decide +kernel) rfl ?_
  show J E I_M_person (rmk 2 0 0) (QR E I_M_person (rmk 2 0 0)) 0 0 μ 0 [some (.inr a0), some (.inl a1), some (.inl a2), some (.inl a3)] [] (f_M_person a0 a1 a2 a3 μ)
  unfold f_M_person
  refine J_iload_n zd_M_person_0 rfl ?_
  refine J_callSi (as := [.inl _]) zd_M_person_1 zm_M_isStation ⟨Nat.le_of_ble_eq_true rfl, Nat.le_of_ble_eq_true rfl⟩ zw_818 zw_819 rfl (Nat.le_of_ble_eq_true rfl) ⟨Nat.le_of_ble_eq_true rfl, Nat.le_of_ble_eq_true rfl⟩ rfl rfl (c_M_isStation E _ _) (fun v6 μ5 => ?_)
  refine J_if_ne (tgt := 13) zd_M_person_4 rfl ?_ ?_
  · refine J_iload_n zd_M_person_13 rfl ?_
    refine J_if_lt (tgt := 21) zd_M_person_14 rfl ?_ ?_
    · refine J_wid (k := 0) (n := 0) (Nat.le_of_ble_eq_true rfl) (Nat.le_of_ble_eq_true rfl) ?_
      refine J_keep [true, false, false, false] rfl ?_
      exact j_M_person_21 E _ _
    · refine J_iload_n zd_M_person_17 rfl ?_
      refine J_if_ge (tgt := 28) zd_M_person_18 rfl ?_ ?_
      · refine J_iload_n zd_M_person_28 rfl ?_
        refine J_bipush (v := 15) zd_M_person_29 (by decide) ?_
        refine J_icmp_gt (tgt := 50) zd_M_person_31 rfl ?_ ?_
        · refine J_wid (k := 0) (n := 0) (Nat.le_of_ble_eq_true rfl) (Nat.le_of_ble_eq_true rfl) ?_
          refine J_keep [true, false, false, false] rfl ?_
          exact j_M_person_50 E _ _
        · refine J_iload_n zd_M_person_34 rfl ?_
          refine J_sipush (v := 200) zd_M_person_35 (by decide) ?_
          refine J_icmp_gt (tgt := 50) zd_M_person_38 rfl ?_ ?_
          · refine J_wid (k := 0) (n := 0) (Nat.le_of_ble_eq_true rfl) (Nat.le_of_ble_eq_true rfl) ?_
            refine J_keep [true, false, false, false] rfl ?_
            exact j_M_person_50 E _ _
          · refine J_aload_n zd_M_person_41 rfl ?_
            refine J_gI zd_M_person_42 zf_M_110 rfl (fun v7 => ?_)
            refine J_bipush (v := 40) zd_M_person_45 (by decide) ?_
            refine J_icmp_ne (tgt := 57) zd_M_person_47 rfl ?_ ?_
            · refine J_aload_n zd_M_person_57 rfl ?_
              refine J_gR zd_M_person_58 zf_M_23 rfl (fun r8 => ?_)
              refine J_aload_n zd_M_person_61 rfl ?_
              refine J_gI zd_M_person_62 zf_M_110 rfl (fun v9 => ?_)
              refine J_iload_n zd_M_person_65 rfl ?_
              refine J_aS zd_M_person_66 (fun μ10 => ?_)
              refine J_aload_n zd_M_person_67 rfl ?_
              refine J_gR zd_M_person_68 zf_M_26 rfl (fun r11 => ?_)
              refine J_aload_n zd_M_person_71 rfl ?_
              refine J_gI zd_M_person_72 zf_M_110 rfl (fun v12 => ?_)
              refine J_iload_n zd_M_person_75 rfl ?_
              refine J_aS zd_M_person_76 (fun μ13 => ?_)
              refine J_aload_n zd_M_person_77 rfl ?_
              refine J_gR zd_M_person_78 zf_M_29 rfl (fun r14 => ?_)
              refine J_aload_n zd_M_person_81 rfl ?_
              refine J_gI zd_M_person_82 zf_M_110 rfl (fun v15 => ?_)
              refine J_iload_n zd_M_person_85 rfl ?_
              refine J_aS zd_M_person_86 (fun μ16 => ?_)
              refine J_aload_n zd_M_person_87 rfl ?_
              refine J_dup zd_M_person_88 ?_
              refine J_gI zd_M_person_89 zf_M_110 rfl (fun v17 => ?_)
              refine J_dup_x1 zd_M_person_92 ?_
              refine J_iconst (v := 1) zd_M_person_93 (by decide) ?_
              refine J_iadd zd_M_person_94 ?_
              refine J_pI zd_M_person_95 zf_M_110 ⟨zt_M, zn_M, Or.inl rfl⟩ rfl rfl (fun μ18 => ?_)
              exact J_iret zd_M_person_98 rfl (Nat.le_of_ble_eq_true rfl) (Nat.le_of_ble_eq_true rfl)
            · refine J_wid (k := 0) (n := 0) (Nat.le_of_ble_eq_true rfl) (Nat.le_of_ble_eq_true rfl) ?_
              refine J_keep [true, false, false, false] rfl ?_
              exact j_M_person_50 E _ _
      · refine J_wid (k := 0) (n := 0) (Nat.le_of_ble_eq_true rfl) (Nat.le_of_ble_eq_true rfl) ?_
        refine J_keep [true, false, false, false] rfl ?_
        exact j_M_person_21 E _ _
  · refine J_aload_n zd_M_person_7 rfl ?_
    refine J_iconst (v := (-1)) zd_M_person_8 (by decide) ?_
    refine J_callVi (ci := 10) (as := [.inl _]) zd_M_person_9 zm_M_no ⟨Nat.le_of_ble_eq_true rfl, Nat.le_of_ble_eq_true rfl⟩ zw_821 zw_823 zs_22 (by decide) rfl rfl (Nat.le_of_ble_eq_true rfl) ⟨Nat.le_of_ble_eq_true rfl, Nat.le_of_ble_eq_true rfl⟩ rfl rfl (c_M_no E _ _ _) (fun v20 μ19 => ?_)
    exact J_iret zd_M_person_12 rfl (Nat.le_of_ble_eq_true rfl) (Nat.le_of_ble_eq_true rfl)
def f_M_isPerson (a0 : Nat) (a1 : Int32) (μ : Mem) : Option (LV × Mem) := (if a1 < 0 then (some (.inl 0, μ)) else gI 10 a0 1 μ (fun v1 => (if v1 ≤ a1 then (some (.inl 0, μ)) else (some (.inl 1, μ)))))
set_option maxRecDepth 20000 in
theorem c_M_isPerson (E : EV) (a0 : Nat) (a1 : Int32) (μ : Mem) : Ct E I_M_isPerson (rmk 1 0 0) [.inr a0, .inl a1] μ (f_M_isPerson a0 a1 μ) := by
  refine Ct.of (k := 0) (by decide +kernel) rfl ?_
  show J E I_M_isPerson (rmk 1 0 0) (QR E I_M_isPerson (rmk 1 0 0)) 0 0 μ 0 [some (.inr a0), some (.inl a1)] [] (f_M_isPerson a0 a1 μ)
  unfold f_M_isPerson
  refine J_iload_n zd_M_isPerson_0 rfl ?_
  refine J_if_lt (tgt := 16) zd_M_isPerson_1 rfl ?_ ?_
  · refine J_iconst (v := 0) zd_M_isPerson_16 (by decide) ?_
    exact J_zret zd_M_isPerson_17 rfl rfl (Nat.le_of_ble_eq_true rfl) (Nat.le_of_ble_eq_true rfl)
  · refine J_iload_n zd_M_isPerson_4 rfl ?_
    refine J_aload_n zd_M_isPerson_5 rfl ?_
    refine J_gI zd_M_isPerson_6 zf_M_110 rfl (fun v1 => ?_)
    refine J_icmp_ge (tgt := 16) zd_M_isPerson_9 rfl ?_ ?_
    · refine J_iconst (v := 0) zd_M_isPerson_16 (by decide) ?_
      exact J_zret zd_M_isPerson_17 rfl rfl (Nat.le_of_ble_eq_true rfl) (Nat.le_of_ble_eq_true rfl)
    · refine J_iconst (v := 1) zd_M_isPerson_12 (by decide) ?_
      refine J_goto (tgt := 17) zd_M_isPerson_13 rfl ?_
      exact J_zret zd_M_isPerson_17 rfl rfl (Nat.le_of_ble_eq_true rfl) (Nat.le_of_ble_eq_true rfl)
def f_M_papers (a0 : Nat) (a1 : Int32) (a2 : Int32) (μ : Mem) : Option (LV × Mem) := cV 10 a0 μ (bI (f_M_isPerson a0 a1 μ) (fun v2 μ1 => (if v2 = 0 then cV 10 a0 μ1 (bI (f_M_no a0 (-1) μ1) (fun v12 μ11 => (some (.inl v12, μ11)))) else (if 0 ≤ a2 then (if a2 ≤ 200 then gR 10 a0 11 μ1 (fun r3 => aI r3 a1 μ1 (fun v4 => gR 10 a0 11 μ1 (fun r5 => aS r5 a1 a2 μ1 (fun μ6 => (some (.inl v4, μ6)))))) else cV 10 a0 μ1 (bI (f_M_no a0 (-6) μ1) (fun v8 μ7 => (some (.inl v8, μ7))))) else cV 10 a0 μ1 (bI (f_M_no a0 (-4) μ1) (fun v10 μ9 => (some (.inl v10, μ9))))))))
set_option maxRecDepth 20000 in
theorem c_M_papers (E : EV) (a0 : Nat) (a1 : Int32) (a2 : Int32) (μ : Mem) : Ct E I_M_papers (rmk 2 0 0) [.inr a0, .inl a1, .inl a2] μ (f_M_papers a0 a1 a2 μ) := by
  refine Ct.of (k := 1) (by decide +kernel) rfl ?_
  show J E I_M_papers (rmk 2 0 0) (QR E I_M_papers (rmk 2 0 0)) 0 0 μ 0 [some (.inr a0), some (.inl a1), some (.inl a2), none] [] (f_M_papers a0 a1 a2 μ)
  unfold f_M_papers
  refine J_aload_n zd_M_papers_0 rfl ?_
  refine J_iload_n zd_M_papers_1 rfl ?_
  refine J_callVi (ci := 10) (as := [.inl _]) zd_M_papers_2 zm_M_isPerson ⟨Nat.le_of_ble_eq_true rfl, Nat.le_of_ble_eq_true rfl⟩ zw_833 zw_835 zs_23 (by decide) rfl rfl (Nat.le_of_ble_eq_true rfl) ⟨Nat.le_of_ble_eq_true rfl, Nat.le_of_ble_eq_true rfl⟩ rfl rfl (c_M_isPerson E _ _ _) (fun v2 μ1 => ?_)
  refine J_if_ne (tgt := 14) zd_M_papers_5 rfl ?_ ?_
  · refine J_iload_n zd_M_papers_14 rfl ?_
    refine J_if_ge (tgt := 25) zd_M_papers_15 rfl ?_ ?_
    · refine J_iload_n zd_M_papers_25 rfl ?_
      refine J_sipush (v := 200) zd_M_papers_26 (by decide) ?_
      refine J_icmp_le (tgt := 39) zd_M_papers_29 rfl ?_ ?_
      · refine J_aload_n zd_M_papers_39 rfl ?_
        refine J_gR zd_M_papers_40 zf_M_29 rfl (fun r3 => ?_)
        refine J_iload_n zd_M_papers_43 rfl ?_
        refine J_aI zd_M_papers_44 (fun v4 => ?_)
        refine J_istore_n (lv' := [some _, some _, some _, some _]) zd_M_papers_45 (Nat.le_of_ble_eq_true rfl) rfl ?_
        refine J_aload_n zd_M_papers_46 rfl ?_
        refine J_gR zd_M_papers_47 zf_M_29 rfl (fun r5 => ?_)
        refine J_iload_n zd_M_papers_50 rfl ?_
        refine J_iload_n zd_M_papers_51 rfl ?_
        refine J_aS zd_M_papers_52 (fun μ6 => ?_)
        refine J_iload_n zd_M_papers_53 rfl ?_
        exact J_iret zd_M_papers_54 rfl (Nat.le_of_ble_eq_true rfl) (Nat.le_of_ble_eq_true rfl)
      · refine J_aload_n zd_M_papers_32 rfl ?_
        refine J_bipush (v := (-6)) zd_M_papers_33 (by decide) ?_
        refine J_callVi (ci := 10) (as := [.inl _]) zd_M_papers_35 zm_M_no ⟨Nat.le_of_ble_eq_true rfl, Nat.le_of_ble_eq_true rfl⟩ zw_821 zw_823 zs_22 (by decide) rfl rfl (Nat.le_of_ble_eq_true rfl) ⟨Nat.le_of_ble_eq_true rfl, Nat.le_of_ble_eq_true rfl⟩ rfl rfl (c_M_no E _ _ _) (fun v8 μ7 => ?_)
        exact J_iret zd_M_papers_38 rfl (Nat.le_of_ble_eq_true rfl) (Nat.le_of_ble_eq_true rfl)
    · refine J_aload_n zd_M_papers_18 rfl ?_
      refine J_bipush (v := (-4)) zd_M_papers_19 (by decide) ?_
      refine J_callVi (ci := 10) (as := [.inl _]) zd_M_papers_21 zm_M_no ⟨Nat.le_of_ble_eq_true rfl, Nat.le_of_ble_eq_true rfl⟩ zw_821 zw_823 zs_22 (by decide) rfl rfl (Nat.le_of_ble_eq_true rfl) ⟨Nat.le_of_ble_eq_true rfl, Nat.le_of_ble_eq_true rfl⟩ rfl rfl (c_M_no E _ _ _) (fun v10 μ9 => ?_)
      exact J_iret zd_M_papers_24 rfl (Nat.le_of_ble_eq_true rfl) (Nat.le_of_ble_eq_true rfl)
  · refine J_aload_n zd_M_papers_8 rfl ?_
    refine J_iconst (v := (-1)) zd_M_papers_9 (by decide) ?_
    refine J_callVi (ci := 10) (as := [.inl _]) zd_M_papers_10 zm_M_no ⟨Nat.le_of_ble_eq_true rfl, Nat.le_of_ble_eq_true rfl⟩ zw_821 zw_823 zs_22 (by decide) rfl rfl (Nat.le_of_ble_eq_true rfl) ⟨Nat.le_of_ble_eq_true rfl, Nat.le_of_ble_eq_true rfl⟩ rfl rfl (c_M_no E _ _ _) (fun v12 μ11 => ?_)
    exact J_iret zd_M_papers_13 rfl (Nat.le_of_ble_eq_true rfl) (Nat.le_of_ble_eq_true rfl)
def f_M_hour (a0 : Nat) (μ : Mem) : Option (LV × Mem) := gI 10 a0 0 μ (fun v1 => (some (.inl (v1 / 60), μ)))
set_option maxRecDepth 20000 in
theorem c_M_hour (E : EV) (a0 : Nat) (μ : Mem) : Ct E I_M_hour (rmk 1 0 0) [.inr a0] μ (f_M_hour a0 μ) := by
  refine Ct.of (k := 0) (by decide +kernel) rfl ?_
  show J E I_M_hour (rmk 1 0 0) (QR E I_M_hour (rmk 1 0 0)) 0 0 μ 0 [some (.inr a0)] [] (f_M_hour a0 μ)
  unfold f_M_hour
  refine J_aload_n zd_M_hour_0 rfl ?_
  refine J_gI zd_M_hour_1 zf_M_119 rfl (fun v1 => ?_)
  refine J_bipush (v := 60) zd_M_hour_4 (by decide) ?_
  refine J_idivL zd_M_hour_6 (by decide) ?_
  exact J_iret zd_M_hour_7 rfl (Nat.le_of_ble_eq_true rfl) (Nat.le_of_ble_eq_true rfl)
def f_M_day (a0 : Nat) (μ : Mem) : Option (LV × Mem) := cV 10 a0 μ (bI (f_M_hour a0 μ) (fun v2 μ1 => (some (.inl (v2 / 24), μ1))))
set_option maxRecDepth 20000 in
theorem c_M_day (E : EV) (a0 : Nat) (μ : Mem) : Ct E I_M_day (rmk 2 0 0) [.inr a0] μ (f_M_day a0 μ) := by
  refine Ct.of (k := 0) (by decide +kernel) rfl ?_
  show J E I_M_day (rmk 2 0 0) (QR E I_M_day (rmk 2 0 0)) 0 0 μ 0 [some (.inr a0)] [] (f_M_day a0 μ)
  unfold f_M_day
  refine J_aload_n zd_M_day_0 rfl ?_
  refine J_callVi (ci := 10) (as := []) zd_M_day_1 zm_M_hour ⟨Nat.le_of_ble_eq_true rfl, Nat.le_of_ble_eq_true rfl⟩ zw_845 zw_847 zs_25 (by decide) rfl rfl (Nat.le_of_ble_eq_true rfl) ⟨Nat.le_of_ble_eq_true rfl, Nat.le_of_ble_eq_true rfl⟩ rfl rfl (c_M_hour E _ _) (fun v2 μ1 => ?_)
  refine J_bipush (v := 24) zd_M_day_4 (by decide) ?_
  refine J_idivL zd_M_day_6 (by decide) ?_
  exact J_iret zd_M_day_7 rfl (Nat.le_of_ble_eq_true rfl) (Nat.le_of_ble_eq_true rfl)
def f_M_band (a0 : Nat) (μ : Mem) : Option (LV × Mem) := cV 10 a0 μ (bI (f_M_hour a0 μ) (fun v2 μ1 => cV 10 a0 μ1 (bI (f_M_day a0 μ1) (fun v4 μ3 => (if (irm v4 7) ≤ 4 then (some (.inl (((irm v2 24) / 6) + 0), μ3)) else (some (.inl (((irm v2 24) / 6) + 4), μ3)))))))
set_option maxRecDepth 20000 in
theorem c_M_band (E : EV) (a0 : Nat) (μ : Mem) : Ct E I_M_band (rmk 3 0 0) [.inr a0] μ (f_M_band a0 μ) := by
  refine Ct.of (k := 0) (by decide +kernel) rfl ?_
  show J E I_M_band (rmk 3 0 0) (QR E I_M_band (rmk 3 0 0)) 0 0 μ 0 [some (.inr a0)] [] (f_M_band a0 μ)
  unfold f_M_band
  refine J_aload_n zd_M_band_0 rfl ?_
  refine J_callVi (ci := 10) (as := []) zd_M_band_1 zm_M_hour ⟨Nat.le_of_ble_eq_true rfl, Nat.le_of_ble_eq_true rfl⟩ zw_845 zw_847 zs_25 (by decide) rfl rfl (Nat.le_of_ble_eq_true rfl) ⟨Nat.le_of_ble_eq_true rfl, Nat.le_of_ble_eq_true rfl⟩ rfl rfl (c_M_hour E _ _) (fun v2 μ1 => ?_)
  refine J_bipush (v := 24) zd_M_band_4 (by decide) ?_
  refine J_iremL zd_M_band_6 (by decide) ?_
  refine J_bipush (v := 6) zd_M_band_7 (by decide) ?_
  refine J_idivL zd_M_band_9 (by decide) ?_
  refine J_aload_n zd_M_band_10 rfl ?_
  refine J_callVi (ci := 10) (as := []) zd_M_band_11 zm_M_day ⟨Nat.le_of_ble_eq_true rfl, Nat.le_of_ble_eq_true rfl⟩ zw_849 zw_851 zs_26 (by decide) rfl rfl (Nat.le_of_ble_eq_true rfl) ⟨Nat.le_of_ble_eq_true rfl, Nat.le_of_ble_eq_true rfl⟩ rfl rfl (c_M_day E _ _) (fun v4 μ3 => ?_)
  refine J_bipush (v := 7) zd_M_band_14 (by decide) ?_
  refine J_iremL zd_M_band_16 (by decide) ?_
  refine J_iconst (v := 4) zd_M_band_17 (by decide) ?_
  refine J_icmp_le (tgt := 25) zd_M_band_18 rfl ?_ ?_
  · refine J_iconst (v := 0) zd_M_band_25 (by decide) ?_
    refine J_iadd zd_M_band_26 ?_
    exact J_iret zd_M_band_27 rfl (Nat.le_of_ble_eq_true rfl) (Nat.le_of_ble_eq_true rfl)
  · refine J_iconst (v := 4) zd_M_band_21 (by decide) ?_
    refine J_goto (tgt := 26) zd_M_band_22 rfl ?_
    refine J_iadd zd_M_band_26 ?_
    exact J_iret zd_M_band_27 rfl (Nat.le_of_ble_eq_true rfl) (Nat.le_of_ble_eq_true rfl)
def b_M_page_67  (a0 : Nat) (a3 : Int32)  (μ : Mem) : Option (LV × Mem) := gR 10 a0 13 μ (fun r1 => aI r1 a3 μ (fun v2 => (some (.inl v2, μ))))
set_option maxRecDepth 20000 in
theorem j_M_page_67 (E : EV) (a0 : Nat) (a3 : Int32)  (μ : Mem)  : J E I_M_page (rmk 4 0 0) (QR E I_M_page (rmk 4 0 0)) 0 0 μ 67 [some (.inr a0), none, none, some (.inl a3)] [] (b_M_page_67 a0 a3 μ) := by
  unfold b_M_page_67
  refine J_aload_n zd_M_page_67 rfl ?_
  refine J_gR zd_M_page_68 zf_M_35 rfl (fun r1 => ?_)
  refine J_iload_n zd_M_page_71 rfl ?_
  refine J_aI zd_M_page_72 (fun v2 => ?_)
  exact J_iret zd_M_page_73 rfl (Nat.le_of_ble_eq_true rfl) (Nat.le_of_ble_eq_true rfl)
def f_M_page (a0 : Nat) (a1 : Int32) (a2 : Int32) (μ : Mem) : Option (LV × Mem) := cV 10 a0 μ (bI (f_M_isPerson a0 a1 μ) (fun v4 μ3 => (if v4 = 0 then cV 10 a0 μ3 (bI (f_M_no a0 (-1) μ3) (fun v19 μ18 => (some (.inl v19, μ18)))) else cV 10 a0 μ3 (bI (f_M_band a0 μ3) (fun v6 μ5 => nm ((8 * a1) + v6) (fun v7 => gR 10 a0 13 μ5 (fun r8 => aI r8 v7 μ5 (fun v9 => (if v9 = 200 then cV 10 a0 μ5 (bI (f_M_no a0 (-6) μ5) (fun v17 μ16 => (some (.inl v17, μ16)))) else gR 10 a0 13 μ5 (fun r10 => aI r10 v7 μ5 (fun v11 => aS r10 v7 (v11 + 1) μ5 (fun μ12 => (if a2 = 0 then (b_M_page_67 a0 v7 μ12) else gR 10 a0 14 μ12 (fun r13 => aI r13 v7 μ12 (fun v14 => aS r13 v7 (v14 + 1) μ12 (fun μ15 => (b_M_page_67 a0 v7 μ15)))))))))))))))))
set_option maxRecDepth 20000 in
theorem c_M_page (E : EV) (a0 : Nat) (a1 : Int32) (a2 : Int32) (μ : Mem) : Ct E I_M_page (rmk 4 0 0) [.inr a0, .inl a1, .inl a2] μ (f_M_page a0 a1 a2 μ) := by
  refine Ct.of (k := 1) (by decide +kernel) rfl ?_
  show J E I_M_page (rmk 4 0 0) (QR E I_M_page (rmk 4 0 0)) 0 0 μ 0 [some (.inr a0), some (.inl a1), some (.inl a2), none] [] (f_M_page a0 a1 a2 μ)
  unfold f_M_page
  refine J_aload_n zd_M_page_0 rfl ?_
  refine J_iload_n zd_M_page_1 rfl ?_
  refine J_callVi (ci := 10) (as := [.inl _]) zd_M_page_2 zm_M_isPerson ⟨Nat.le_of_ble_eq_true rfl, Nat.le_of_ble_eq_true rfl⟩ zw_833 zw_835 zs_23 (by decide) rfl rfl (Nat.le_of_ble_eq_true rfl) ⟨Nat.le_of_ble_eq_true rfl, Nat.le_of_ble_eq_true rfl⟩ rfl rfl (c_M_isPerson E _ _ _) (fun v4 μ3 => ?_)
  refine J_if_ne (tgt := 14) zd_M_page_5 rfl ?_ ?_
  · refine J_bipush (v := 8) zd_M_page_14 (by decide) ?_
    refine J_iload_n zd_M_page_16 rfl ?_
    refine J_imul zd_M_page_17 ?_
    refine J_aload_n zd_M_page_18 rfl ?_
    refine J_callVi (ci := 10) (as := []) zd_M_page_19 zm_M_band ⟨Nat.le_of_ble_eq_true rfl, Nat.le_of_ble_eq_true rfl⟩ zw_841 zw_843 zs_24 (by decide) rfl rfl (Nat.le_of_ble_eq_true rfl) ⟨Nat.le_of_ble_eq_true rfl, Nat.le_of_ble_eq_true rfl⟩ rfl rfl (c_M_band E _ _) (fun v6 μ5 => ?_)
    refine J_iadd zd_M_page_22 ?_
    refine J_nm (fun v7 => ?_)
    refine J_istore_n (lv' := [some _, some _, some _, some _]) zd_M_page_23 (Nat.le_of_ble_eq_true rfl) rfl ?_
    refine J_aload_n zd_M_page_24 rfl ?_
    refine J_gR zd_M_page_25 zf_M_35 rfl (fun r8 => ?_)
    refine J_iload_n zd_M_page_28 rfl ?_
    refine J_aI zd_M_page_29 (fun v9 => ?_)
    refine J_sipush (v := 200) zd_M_page_30 (by decide) ?_
    refine J_icmp_ne (tgt := 43) zd_M_page_33 rfl ?_ ?_
    · refine J_aload_n zd_M_page_43 rfl ?_
      refine J_gR zd_M_page_44 zf_M_35 rfl (fun r10 => ?_)
      refine J_iload_n zd_M_page_47 rfl ?_
      refine J_dup2 zd_M_page_48 ?_
      refine J_aI zd_M_page_49 (fun v11 => ?_)
      refine J_iconst (v := 1) zd_M_page_50 (by decide) ?_
      refine J_iadd zd_M_page_51 ?_
      refine J_aS zd_M_page_52 (fun μ12 => ?_)
      refine J_iload_n zd_M_page_53 rfl ?_
      refine J_if_eq (tgt := 67) zd_M_page_54 rfl ?_ ?_
      · refine J_wid (k := 0) (n := 0) (Nat.le_of_ble_eq_true rfl) (Nat.le_of_ble_eq_true rfl) ?_
        refine J_keep [true, false, false, true] rfl ?_
        exact j_M_page_67 E _ _ _
      · refine J_aload_n zd_M_page_57 rfl ?_
        refine J_gR zd_M_page_58 zf_M_38 rfl (fun r13 => ?_)
        refine J_iload_n zd_M_page_61 rfl ?_
        refine J_dup2 zd_M_page_62 ?_
        refine J_aI zd_M_page_63 (fun v14 => ?_)
        refine J_iconst (v := 1) zd_M_page_64 (by decide) ?_
        refine J_iadd zd_M_page_65 ?_
        refine J_aS zd_M_page_66 (fun μ15 => ?_)
        refine J_wid (k := 0) (n := 0) (Nat.le_of_ble_eq_true rfl) (Nat.le_of_ble_eq_true rfl) ?_
        refine J_keep [true, false, false, true] rfl ?_
        exact j_M_page_67 E _ _ _
    · refine J_aload_n zd_M_page_36 rfl ?_
      refine J_bipush (v := (-6)) zd_M_page_37 (by decide) ?_
      refine J_callVi (ci := 10) (as := [.inl _]) zd_M_page_39 zm_M_no ⟨Nat.le_of_ble_eq_true rfl, Nat.le_of_ble_eq_true rfl⟩ zw_821 zw_823 zs_22 (by decide) rfl rfl (Nat.le_of_ble_eq_true rfl) ⟨Nat.le_of_ble_eq_true rfl, Nat.le_of_ble_eq_true rfl⟩ rfl rfl (c_M_no E _ _ _) (fun v17 μ16 => ?_)
      exact J_iret zd_M_page_42 rfl (Nat.le_of_ble_eq_true rfl) (Nat.le_of_ble_eq_true rfl)
  · refine J_aload_n zd_M_page_8 rfl ?_
    refine J_iconst (v := (-1)) zd_M_page_9 (by decide) ?_
    refine J_callVi (ci := 10) (as := [.inl _]) zd_M_page_10 zm_M_no ⟨Nat.le_of_ble_eq_true rfl, Nat.le_of_ble_eq_true rfl⟩ zw_821 zw_823 zs_22 (by decide) rfl rfl (Nat.le_of_ble_eq_true rfl) ⟨Nat.le_of_ble_eq_true rfl, Nat.le_of_ble_eq_true rfl⟩ rfl rfl (c_M_no E _ _ _) (fun v19 μ18 => ?_)
    exact J_iret zd_M_page_13 rfl (Nat.le_of_ble_eq_true rfl) (Nat.le_of_ble_eq_true rfl)
def f_M_isBand (a0 : Int32) (μ : Mem) : Option (LV × Mem) := (if a0 < 0 then (some (.inl 0, μ)) else (if 8 ≤ a0 then (some (.inl 0, μ)) else (some (.inl 1, μ))))
set_option maxRecDepth 20000 in
theorem c_M_isBand (E : EV) (a0 : Int32) (μ : Mem) : Ct E I_M_isBand (rmk 1 0 0) [.inl a0] μ (f_M_isBand a0 μ) := by
  refine Ct.of (k := 0) (by decide +kernel) rfl ?_
  show J E I_M_isBand (rmk 1 0 0) (QR E I_M_isBand (rmk 1 0 0)) 0 0 μ 0 [some (.inl a0)] [] (f_M_isBand a0 μ)
  unfold f_M_isBand
  refine J_iload_n zd_M_isBand_0 rfl ?_
  refine J_if_lt (tgt := 14) zd_M_isBand_1 rfl ?_ ?_
  · refine J_iconst (v := 0) zd_M_isBand_14 (by decide) ?_
    exact J_zret zd_M_isBand_15 rfl rfl (Nat.le_of_ble_eq_true rfl) (Nat.le_of_ble_eq_true rfl)
  · refine J_iload_n zd_M_isBand_4 rfl ?_
    refine J_bipush (v := 8) zd_M_isBand_5 (by decide) ?_
    refine J_icmp_ge (tgt := 14) zd_M_isBand_7 rfl ?_ ?_
    · refine J_iconst (v := 0) zd_M_isBand_14 (by decide) ?_
      exact J_zret zd_M_isBand_15 rfl rfl (Nat.le_of_ble_eq_true rfl) (Nat.le_of_ble_eq_true rfl)
    · refine J_iconst (v := 1) zd_M_isBand_10 (by decide) ?_
      refine J_goto (tgt := 15) zd_M_isBand_11 rfl ?_
      exact J_zret zd_M_isBand_15 rfl rfl (Nat.le_of_ble_eq_true rfl) (Nat.le_of_ble_eq_true rfl)
def f_M_part (a0 : Nat) (a1 : Int32) (a2 : Int32) (μ : Mem) : Option (LV × Mem) := gR 10 a0 11 μ (fun r1 => aI r1 a1 μ (fun v2 => cV 10 a0 μ (bI (f_M_day a0 μ) (fun v4 μ3 => (if v2 < v4 then (some (.inl 0, μ3)) else gI 10 a0 0 μ3 (fun v5 => gR 10 a0 12 μ3 (fun r6 => aI r6 a1 μ3 (fun v7 => (if v7 ≤ v5 then gR 10 a0 14 μ3 (fun r8 => aI r8 ((8 * a1) + a2) μ3 (fun v9 => gR 10 a0 13 μ3 (fun r10 => aI r10 ((8 * a1) + a2) μ3 (fun v11 => idv (1024 * (v9 + 1)) (v11 + 2) (fun v12 => (some (.inl v12, μ3))))))) else (some (.inl 0, μ3)))))))))))
set_option maxRecDepth 20000 in
theorem c_M_part (E : EV) (a0 : Nat) (a1 : Int32) (a2 : Int32) (μ : Mem) : Ct E I_M_part (rmk 3 0 0) [.inr a0, .inl a1, .inl a2] μ (f_M_part a0 a1 a2 μ) := by
  refine Ct.of (k := 0) (by decide +kernel) rfl ?_
  show J E I_M_part (rmk 3 0 0) (QR E I_M_part (rmk 3 0 0)) 0 0 μ 0 [some (.inr a0), some (.inl a1), some (.inl a2)] [] (f_M_part a0 a1 a2 μ)
  unfold f_M_part
  refine J_aload_n zd_M_part_0 rfl ?_
  refine J_gR zd_M_part_1 zf_M_29 rfl (fun r1 => ?_)
  refine J_iload_n zd_M_part_4 rfl ?_
  refine J_aI zd_M_part_5 (fun v2 => ?_)
  refine J_aload_n zd_M_part_6 rfl ?_
  refine J_callVi (ci := 10) (as := []) zd_M_part_7 zm_M_day ⟨Nat.le_of_ble_eq_true rfl, Nat.le_of_ble_eq_true rfl⟩ zw_849 zw_851 zs_26 (by decide) rfl rfl (Nat.le_of_ble_eq_true rfl) ⟨Nat.le_of_ble_eq_true rfl, Nat.le_of_ble_eq_true rfl⟩ rfl rfl (c_M_day E _ _) (fun v4 μ3 => ?_)
  refine J_icmp_lt (tgt := 26) zd_M_part_10 rfl ?_ ?_
  · refine J_iconst (v := 0) zd_M_part_26 (by decide) ?_
    exact J_iret zd_M_part_27 rfl (Nat.le_of_ble_eq_true rfl) (Nat.le_of_ble_eq_true rfl)
  · refine J_aload_n zd_M_part_13 rfl ?_
    refine J_gI zd_M_part_14 zf_M_119 rfl (fun v5 => ?_)
    refine J_aload_n zd_M_part_17 rfl ?_
    refine J_gR zd_M_part_18 zf_M_32 rfl (fun r6 => ?_)
    refine J_iload_n zd_M_part_21 rfl ?_
    refine J_aI zd_M_part_22 (fun v7 => ?_)
    refine J_icmp_ge (tgt := 28) zd_M_part_23 rfl ?_ ?_
    · refine J_sipush (v := 1024) zd_M_part_28 (by decide) ?_
      refine J_aload_n zd_M_part_31 rfl ?_
      refine J_gR zd_M_part_32 zf_M_38 rfl (fun r8 => ?_)
      refine J_bipush (v := 8) zd_M_part_35 (by decide) ?_
      refine J_iload_n zd_M_part_37 rfl ?_
      refine J_imul zd_M_part_38 ?_
      refine J_iload_n zd_M_part_39 rfl ?_
      refine J_iadd zd_M_part_40 ?_
      refine J_aI zd_M_part_41 (fun v9 => ?_)
      refine J_iconst (v := 1) zd_M_part_42 (by decide) ?_
      refine J_iadd zd_M_part_43 ?_
      refine J_imul zd_M_part_44 ?_
      refine J_aload_n zd_M_part_45 rfl ?_
      refine J_gR zd_M_part_46 zf_M_35 rfl (fun r10 => ?_)
      refine J_bipush (v := 8) zd_M_part_49 (by decide) ?_
      refine J_iload_n zd_M_part_51 rfl ?_
      refine J_imul zd_M_part_52 ?_
      refine J_iload_n zd_M_part_53 rfl ?_
      refine J_iadd zd_M_part_54 ?_
      refine J_aI zd_M_part_55 (fun v11 => ?_)
      refine J_iconst (v := 2) zd_M_part_56 (by decide) ?_
      refine J_iadd zd_M_part_57 ?_
      refine J_idiv zd_M_part_58 (fun v12 => ?_)
      exact J_iret zd_M_part_59 rfl (Nat.le_of_ble_eq_true rfl) (Nat.le_of_ble_eq_true rfl)
    · refine J_iconst (v := 0) zd_M_part_26 (by decide) ?_
      exact J_iret zd_M_part_27 rfl (Nat.le_of_ble_eq_true rfl) (Nat.le_of_ble_eq_true rfl)
def b_M_partOf_24  (a0 : Nat)  (μ : Mem) : Option (LV × Mem) := cV 10 a0 μ (bI (f_M_no a0 (-1) μ) (fun v2 μ1 => (some (.inl v2, μ1))))
set_option maxRecDepth 20000 in
theorem j_M_partOf_24 (E : EV) (a0 : Nat)  (μ : Mem)  : J E I_M_partOf (rmk 4 0 0) (QR E I_M_partOf (rmk 4 0 0)) 0 0 μ 24 [some (.inr a0), none, none] [] (b_M_partOf_24 a0 μ) := by
  unfold b_M_partOf_24
  refine J_aload_n zd_M_partOf_24 rfl ?_
  refine J_iconst (v := (-1)) zd_M_partOf_25 (by decide) ?_
  refine J_callVi (ci := 10) (as := [.inl _]) zd_M_partOf_26 zm_M_no ⟨Nat.le_of_ble_eq_true rfl, Nat.le_of_ble_eq_true rfl⟩ zw_821 zw_823 zs_22 (by decide) rfl rfl (Nat.le_of_ble_eq_true rfl) ⟨Nat.le_of_ble_eq_true rfl, Nat.le_of_ble_eq_true rfl⟩ rfl rfl (c_M_no E _ _ _) (fun v2 μ1 => ?_)
  exact J_iret zd_M_partOf_29 rfl (Nat.le_of_ble_eq_true rfl) (Nat.le_of_ble_eq_true rfl)
def f_M_partOf (a0 : Nat) (a1 : Int32) (a2 : Int32) (μ : Mem) : Option (LV × Mem) := cV 10 a0 μ (bI (f_M_isPerson a0 a1 μ) (fun v4 μ3 => (if v4 = 0 then (b_M_partOf_24 a0 μ3) else bI (f_M_isBand a2 μ3) (fun v6 μ5 => (if v6 = 0 then (b_M_partOf_24 a0 μ5) else cV 10 a0 μ5 (bI (f_M_part a0 a1 a2 μ5) (fun v8 μ7 => (some (.inl v8, μ7)))))))))
set_option maxRecDepth 20000 in
theorem c_M_partOf (E : EV) (a0 : Nat) (a1 : Int32) (a2 : Int32) (μ : Mem) : Ct E I_M_partOf (rmk 4 0 0) [.inr a0, .inl a1, .inl a2] μ (f_M_partOf a0 a1 a2 μ) := by
  refine Ct.of (k := 0) (by decide +kernel) rfl ?_
  show J E I_M_partOf (rmk 4 0 0) (QR E I_M_partOf (rmk 4 0 0)) 0 0 μ 0 [some (.inr a0), some (.inl a1), some (.inl a2)] [] (f_M_partOf a0 a1 a2 μ)
  unfold f_M_partOf
  refine J_aload_n zd_M_partOf_0 rfl ?_
  refine J_iload_n zd_M_partOf_1 rfl ?_
  refine J_callVi (ci := 10) (as := [.inl _]) zd_M_partOf_2 zm_M_isPerson ⟨Nat.le_of_ble_eq_true rfl, Nat.le_of_ble_eq_true rfl⟩ zw_833 zw_835 zs_23 (by decide) rfl rfl (Nat.le_of_ble_eq_true rfl) ⟨Nat.le_of_ble_eq_true rfl, Nat.le_of_ble_eq_true rfl⟩ rfl rfl (c_M_isPerson E _ _ _) (fun v4 μ3 => ?_)
  refine J_if_eq (tgt := 24) zd_M_partOf_5 rfl ?_ ?_
  · refine J_wid (k := 0) (n := 0) (Nat.le_of_ble_eq_true rfl) (Nat.le_of_ble_eq_true rfl) ?_
    refine J_keep [true, false, false] rfl ?_
    exact j_M_partOf_24 E _ _
  · refine J_iload_n zd_M_partOf_8 rfl ?_
    refine J_callSi (as := [.inl _]) zd_M_partOf_9 zm_M_isBand ⟨Nat.le_of_ble_eq_true rfl, Nat.le_of_ble_eq_true rfl⟩ zw_857 zw_858 rfl (Nat.le_of_ble_eq_true rfl) ⟨Nat.le_of_ble_eq_true rfl, Nat.le_of_ble_eq_true rfl⟩ rfl rfl (c_M_isBand E _ _) (fun v6 μ5 => ?_)
    refine J_if_eq (tgt := 24) zd_M_partOf_12 rfl ?_ ?_
    · refine J_wid (k := 0) (n := 0) (Nat.le_of_ble_eq_true rfl) (Nat.le_of_ble_eq_true rfl) ?_
      refine J_keep [true, false, false] rfl ?_
      exact j_M_partOf_24 E _ _
    · refine J_aload_n zd_M_partOf_15 rfl ?_
      refine J_iload_n zd_M_partOf_16 rfl ?_
      refine J_iload_n zd_M_partOf_17 rfl ?_
      refine J_callVi (ci := 10) (as := [.inl _, .inl _]) zd_M_partOf_18 zm_M_part ⟨Nat.le_of_ble_eq_true rfl, Nat.le_of_ble_eq_true rfl⟩ zw_860 zw_862 zs_27 (by decide) rfl rfl (Nat.le_of_ble_eq_true rfl) ⟨Nat.le_of_ble_eq_true rfl, Nat.le_of_ble_eq_true rfl⟩ rfl rfl (c_M_part E _ _ _ _) (fun v8 μ7 => ?_)
      refine J_goto (tgt := 29) zd_M_partOf_21 rfl ?_
      exact J_iret zd_M_partOf_29 rfl (Nat.le_of_ble_eq_true rfl) (Nat.le_of_ble_eq_true rfl)
def b_M_set_9  (a0 : Nat)  (μ : Mem) : Option (LV × Mem) := cV 10 a0 μ (bI (f_M_no a0 (-2) μ) (fun v2 μ1 => (some (.inl v2, μ1))))
set_option maxRecDepth 20000 in
theorem j_M_set_9 (E : EV) (a0 : Nat)  (μ : Mem)  : J E I_M_set (rmk 2 0 0) (QR E I_M_set (rmk 2 0 0)) 0 0 μ 9 [some (.inr a0), none, none, none] [] (b_M_set_9 a0 μ) := by
  unfold b_M_set_9
  refine J_aload_n zd_M_set_9 rfl ?_
  refine J_bipush (v := (-2)) zd_M_set_10 (by decide) ?_
  refine J_callVi (ci := 10) (as := [.inl _]) zd_M_set_12 zm_M_no ⟨Nat.le_of_ble_eq_true rfl, Nat.le_of_ble_eq_true rfl⟩ zw_821 zw_823 zs_22 (by decide) rfl rfl (Nat.le_of_ble_eq_true rfl) ⟨Nat.le_of_ble_eq_true rfl, Nat.le_of_ble_eq_true rfl⟩ rfl rfl (c_M_no E _ _ _) (fun v2 μ1 => ?_)
  exact J_iret zd_M_set_15 rfl (Nat.le_of_ble_eq_true rfl) (Nat.le_of_ble_eq_true rfl)
def b_M_set_73  (a0 : Nat) (a1 : Int32) (a2 : Int32) (s0 : Int32) (μ : Mem) : Option (LV × Mem) := (if a1 = 0 then pI 10 a0 5 a2 μ (fun μ4 => (some (.inl s0, μ4))) else pI 10 a0 6 a2 μ (fun μ3 => (some (.inl s0, μ3))))
set_option maxRecDepth 20000 in
theorem j_M_set_73 (E : EV) (a0 : Nat) (a1 : Int32) (a2 : Int32) (s0 : Int32) (μ : Mem)  : J E I_M_set (rmk 2 0 0) (QR E I_M_set (rmk 2 0 0)) 0 0 μ 73 [some (.inr a0), some (.inl a1), some (.inl a2), none] [.inl s0] (b_M_set_73 a0 a1 a2 s0 μ) := by
  unfold b_M_set_73
  refine J_istore_n (lv' := [some _, some _, some _, some _]) zd_M_set_73 (Nat.le_of_ble_eq_true rfl) rfl ?_
  refine J_iload_n zd_M_set_74 rfl ?_
  refine J_if_ne (tgt := 86) zd_M_set_75 rfl ?_ ?_
  · refine J_aload_n zd_M_set_86 rfl ?_
    refine J_iload_n zd_M_set_87 rfl ?_
    refine J_pI zd_M_set_88 zf_M_13 ⟨zt_M, zn_M, Or.inl rfl⟩ rfl rfl (fun μ3 => ?_)
    refine J_iload_n zd_M_set_91 rfl ?_
    exact J_iret zd_M_set_92 rfl (Nat.le_of_ble_eq_true rfl) (Nat.le_of_ble_eq_true rfl)
  · refine J_aload_n zd_M_set_78 rfl ?_
    refine J_iload_n zd_M_set_79 rfl ?_
    refine J_pI zd_M_set_80 zf_M_7 ⟨zt_M, zn_M, Or.inl rfl⟩ rfl rfl (fun μ4 => ?_)
    refine J_goto (tgt := 91) zd_M_set_83 rfl ?_
    refine J_iload_n zd_M_set_91 rfl ?_
    exact J_iret zd_M_set_92 rfl (Nat.le_of_ble_eq_true rfl) (Nat.le_of_ble_eq_true rfl)
def b_M_set_48  (a0 : Nat) (a1 : Int32) (a2 : Int32) (s0 : Int32) (s1 : Int32) (μ : Mem) : Option (LV × Mem) := (if s1 ≤ s0 then (if a1 = 0 then gI 10 a0 5 μ (fun v6 => (b_M_set_73 a0 a1 a2 v6 μ)) else gI 10 a0 6 μ (fun v5 => (b_M_set_73 a0 a1 a2 v5 μ))) else cV 10 a0 μ (bI (f_M_no a0 (-6) μ) (fun v8 μ7 => (some (.inl v8, μ7)))))
set_option maxRecDepth 20000 in
theorem j_M_set_48 (E : EV) (a0 : Nat) (a1 : Int32) (a2 : Int32) (s0 : Int32) (s1 : Int32) (μ : Mem)  : J E I_M_set (rmk 2 0 0) (QR E I_M_set (rmk 2 0 0)) 0 0 μ 48 [some (.inr a0), some (.inl a1), some (.inl a2), none] [.inl s0, .inl s1] (b_M_set_48 a0 a1 a2 s0 s1 μ) := by
  unfold b_M_set_48
  refine J_icmp_le (tgt := 58) zd_M_set_48 rfl ?_ ?_
  · refine J_iload_n zd_M_set_58 rfl ?_
    refine J_if_ne (tgt := 69) zd_M_set_59 rfl ?_ ?_
    · refine J_aload_n zd_M_set_69 rfl ?_
      refine J_gI zd_M_set_70 zf_M_13 rfl (fun v5 => ?_)
      refine J_wid (k := 0) (n := 0) (Nat.le_of_ble_eq_true rfl) (Nat.le_of_ble_eq_true rfl) ?_
      refine J_keep [true, true, true, false] rfl ?_
      exact j_M_set_73 E _ _ _ _ _
    · refine J_aload_n zd_M_set_62 rfl ?_
      refine J_gI zd_M_set_63 zf_M_7 rfl (fun v6 => ?_)
      refine J_goto (tgt := 73) zd_M_set_66 rfl ?_
      refine J_wid (k := 0) (n := 0) (Nat.le_of_ble_eq_true rfl) (Nat.le_of_ble_eq_true rfl) ?_
      refine J_keep [true, true, true, false] rfl ?_
      exact j_M_set_73 E _ _ _ _ _
  · refine J_aload_n zd_M_set_51 rfl ?_
    refine J_bipush (v := (-6)) zd_M_set_52 (by decide) ?_
    refine J_callVi (ci := 10) (as := [.inl _]) zd_M_set_54 zm_M_no ⟨Nat.le_of_ble_eq_true rfl, Nat.le_of_ble_eq_true rfl⟩ zw_821 zw_823 zs_22 (by decide) rfl rfl (Nat.le_of_ble_eq_true rfl) ⟨Nat.le_of_ble_eq_true rfl, Nat.le_of_ble_eq_true rfl⟩ rfl rfl (c_M_no E _ _ _) (fun v8 μ7 => ?_)
    exact J_iret zd_M_set_57 rfl (Nat.le_of_ble_eq_true rfl) (Nat.le_of_ble_eq_true rfl)
def b_M_set_26  (a0 : Nat) (a1 : Int32) (a2 : Int32) (s0 : Int32) (s1 : Int32) (μ : Mem) : Option (LV × Mem) := (if s0 ≤ s1 then (if a1 = 0 then (b_M_set_48 a0 a1 a2 6 a2 μ) else (b_M_set_48 a0 a1 a2 30 a2 μ)) else cV 10 a0 μ (bI (f_M_no a0 (-4) μ) (fun v10 μ9 => (some (.inl v10, μ9)))))
set_option maxRecDepth 20000 in
theorem j_M_set_26 (E : EV) (a0 : Nat) (a1 : Int32) (a2 : Int32) (s0 : Int32) (s1 : Int32) (μ : Mem)  : J E I_M_set (rmk 2 0 0) (QR E I_M_set (rmk 2 0 0)) 0 0 μ 26 [some (.inr a0), some (.inl a1), some (.inl a2), none] [.inl s0, .inl s1] (b_M_set_26 a0 a1 a2 s0 s1 μ) := by
  unfold b_M_set_26
  refine J_icmp_ge (tgt := 36) zd_M_set_26 rfl ?_ ?_
  · refine J_iload_n zd_M_set_36 rfl ?_
    refine J_iload_n zd_M_set_37 rfl ?_
    refine J_if_ne (tgt := 46) zd_M_set_38 rfl ?_ ?_
    · refine J_bipush (v := 30) zd_M_set_46 (by decide) ?_
      refine J_wid (k := 0) (n := 0) (Nat.le_of_ble_eq_true rfl) (Nat.le_of_ble_eq_true rfl) ?_
      refine J_keep [true, true, true, false] rfl ?_
      exact j_M_set_48 E _ _ _ _ _ _
    · refine J_bipush (v := 6) zd_M_set_41 (by decide) ?_
      refine J_goto (tgt := 48) zd_M_set_43 rfl ?_
      refine J_wid (k := 0) (n := 0) (Nat.le_of_ble_eq_true rfl) (Nat.le_of_ble_eq_true rfl) ?_
      refine J_keep [true, true, true, false] rfl ?_
      exact j_M_set_48 E _ _ _ _ _ _
  · refine J_aload_n zd_M_set_29 rfl ?_
    refine J_bipush (v := (-4)) zd_M_set_30 (by decide) ?_
    refine J_callVi (ci := 10) (as := [.inl _]) zd_M_set_32 zm_M_no ⟨Nat.le_of_ble_eq_true rfl, Nat.le_of_ble_eq_true rfl⟩ zw_821 zw_823 zs_22 (by decide) rfl rfl (Nat.le_of_ble_eq_true rfl) ⟨Nat.le_of_ble_eq_true rfl, Nat.le_of_ble_eq_true rfl⟩ rfl rfl (c_M_no E _ _ _) (fun v10 μ9 => ?_)
    exact J_iret zd_M_set_35 rfl (Nat.le_of_ble_eq_true rfl) (Nat.le_of_ble_eq_true rfl)
def f_M_set (a0 : Nat) (a1 : Int32) (a2 : Int32) (μ : Mem) : Option (LV × Mem) := (if a1 < 0 then (b_M_set_9 a0 μ) else (if a1 ≤ 1 then (if a1 = 0 then (b_M_set_26 a0 a1 a2 2 a2 μ) else (b_M_set_26 a0 a1 a2 5 a2 μ)) else (b_M_set_9 a0 μ)))
set_option maxRecDepth 20000 in
theorem c_M_set (E : EV) (a0 : Nat) (a1 : Int32) (a2 : Int32) (μ : Mem) : Ct E I_M_set (rmk 2 0 0) [.inr a0, .inl a1, .inl a2] μ (f_M_set a0 a1 a2 μ) := by
  refine Ct.of (k := 1) (by decide +kernel) rfl ?_
  show J E I_M_set (rmk 2 0 0) (QR E I_M_set (rmk 2 0 0)) 0 0 μ 0 [some (.inr a0), some (.inl a1), some (.inl a2), none] [] (f_M_set a0 a1 a2 μ)
  unfold f_M_set
  refine J_iload_n zd_M_set_0 rfl ?_
  refine J_if_lt (tgt := 9) zd_M_set_1 rfl ?_ ?_
  · refine J_wid (k := 0) (n := 0) (Nat.le_of_ble_eq_true rfl) (Nat.le_of_ble_eq_true rfl) ?_
    refine J_keep [true, false, false, false] rfl ?_
    exact j_M_set_9 E _ _
  · refine J_iload_n zd_M_set_4 rfl ?_
    refine J_iconst (v := 1) zd_M_set_5 (by decide) ?_
    refine J_icmp_le (tgt := 16) zd_M_set_6 rfl ?_ ?_
    · refine J_iload_n zd_M_set_16 rfl ?_
      refine J_iload_n zd_M_set_17 rfl ?_
      refine J_if_ne (tgt := 25) zd_M_set_18 rfl ?_ ?_
      · refine J_iconst (v := 5) zd_M_set_25 (by decide) ?_
        refine J_wid (k := 0) (n := 0) (Nat.le_of_ble_eq_true rfl) (Nat.le_of_ble_eq_true rfl) ?_
        refine J_keep [true, true, true, false] rfl ?_
        exact j_M_set_26 E _ _ _ _ _ _
      · refine J_iconst (v := 2) zd_M_set_21 (by decide) ?_
        refine J_goto (tgt := 26) zd_M_set_22 rfl ?_
        refine J_wid (k := 0) (n := 0) (Nat.le_of_ble_eq_true rfl) (Nat.le_of_ble_eq_true rfl) ?_
        refine J_keep [true, true, true, false] rfl ?_
        exact j_M_set_26 E _ _ _ _ _ _
    · refine J_wid (k := 0) (n := 0) (Nat.le_of_ble_eq_true rfl) (Nat.le_of_ble_eq_true rfl) ?_
      refine J_keep [true, false, false, false] rfl ?_
      exact j_M_set_9 E _ _
def f_M_more (a0 : Int32) (a1 : Int32) (μ : Mem) : Option (LV × Mem) := (if a1 ≤ a0 then (some (.inl a1, μ)) else (some (.inl (a0 + 1), μ)))
set_option maxRecDepth 20000 in
theorem c_M_more (E : EV) (a0 : Int32) (a1 : Int32) (μ : Mem) : Ct E I_M_more (rmk 1 0 0) [.inl a0, .inl a1] μ (f_M_more a0 a1 μ) := by
  refine Ct.of (k := 0) (by decide +kernel) rfl ?_
  show J E I_M_more (rmk 1 0 0) (QR E I_M_more (rmk 1 0 0)) 0 0 μ 0 [some (.inl a0), some (.inl a1)] [] (f_M_more a0 a1 μ)
  unfold f_M_more
  refine J_iload_n zd_M_more_0 rfl ?_
  refine J_iload_n zd_M_more_1 rfl ?_
  refine J_icmp_ge (tgt := 11) zd_M_more_2 rfl ?_ ?_
  · refine J_iload_n zd_M_more_11 rfl ?_
    exact J_iret zd_M_more_12 rfl (Nat.le_of_ble_eq_true rfl) (Nat.le_of_ble_eq_true rfl)
  · refine J_iload_n zd_M_more_5 rfl ?_
    refine J_iconst (v := 1) zd_M_more_6 (by decide) ?_
    refine J_iadd zd_M_more_7 ?_
    refine J_goto (tgt := 12) zd_M_more_8 rfl ?_
    exact J_iret zd_M_more_12 rfl (Nat.le_of_ble_eq_true rfl) (Nat.le_of_ble_eq_true rfl)
def b_M_comes_109  (a2 : Int32) (a3 : Int32) (a4 : Int32) (a5 : Int32) (a6 : Int32)  (μ : Mem) : Option (LV × Mem) := (some (.inl (((((((a6 * 7) + a5) * 3) + a4) * 9) + (a3 * 3)) + a2), μ))
set_option maxRecDepth 20000 in
theorem j_M_comes_109 (E : EV) (a2 : Int32) (a3 : Int32) (a4 : Int32) (a5 : Int32) (a6 : Int32)  (μ : Mem)  : J E I_M_comes (rmk 2 0 0) (QR E I_M_comes (rmk 2 0 0)) 0 0 μ 109 [none, none, some (.inl a2), some (.inl a3), some (.inl a4), some (.inl a5), some (.inl a6)] [] (b_M_comes_109 a2 a3 a4 a5 a6 μ) := by
  unfold b_M_comes_109
  refine J_iload zd_M_comes_109 rfl ?_
  refine J_bipush (v := 7) zd_M_comes_111 (by decide) ?_
  refine J_imul zd_M_comes_113 ?_
  refine J_iload zd_M_comes_114 rfl ?_
  refine J_iadd zd_M_comes_116 ?_
  refine J_iconst (v := 3) zd_M_comes_117 (by decide) ?_
  refine J_imul zd_M_comes_118 ?_
  refine J_iload zd_M_comes_119 rfl ?_
  refine J_iadd zd_M_comes_121 ?_
  refine J_bipush (v := 9) zd_M_comes_122 (by decide) ?_
  refine J_imul zd_M_comes_124 ?_
  refine J_iload_n zd_M_comes_125 rfl ?_
  refine J_iconst (v := 3) zd_M_comes_126 (by decide) ?_
  refine J_imul zd_M_comes_127 ?_
  refine J_iadd zd_M_comes_128 ?_
  refine J_iload_n zd_M_comes_129 rfl ?_
  refine J_iadd zd_M_comes_130 ?_
  exact J_iret zd_M_comes_131 rfl (Nat.le_of_ble_eq_true rfl) (Nat.le_of_ble_eq_true rfl)
def f_M_comes (a0 : Int32) (a1 : Int32) (μ : Mem) : Option (LV × Mem) := nm (irm a0 3) (fun v1 => nm (irm (a0 / 3) 3) (fun v2 => nm (irm (a0 / 9) 3) (fun v3 => nm (irm (a0 / 27) 7) (fun v4 => nm (a0 / 189) (fun v5 => (if (a1 &&& 8) = 0 then bI (f_M_more v5 6 μ) (fun v7 μ6 => (if (a1 &&& 3) = 3 then bI (f_M_more v1 2 μ6) (fun v13 μ12 => (b_M_comes_109 v13 v2 v3 v4 v7 μ12)) else (if (a1 &&& 3) = 2 then bI (f_M_more v2 2 μ6) (fun v11 μ10 => (b_M_comes_109 v1 v11 v3 v4 v7 μ10)) else (if (a1 &&& 3) = 1 then bI (f_M_more v3 2 μ6) (fun v9 μ8 => (b_M_comes_109 v1 v2 v9 v4 v7 μ8)) else (b_M_comes_109 v1 v2 v3 v4 v7 μ6))))) else bI (f_M_more v4 6 μ) (fun v15 μ14 => (b_M_comes_109 v1 v2 v3 v15 v5 μ14))))))))
set_option maxRecDepth 20000 in
theorem c_M_comes (E : EV) (a0 : Int32) (a1 : Int32) (μ : Mem) : Ct E I_M_comes (rmk 2 0 0) [.inl a0, .inl a1] μ (f_M_comes a0 a1 μ) := by
  refine Ct.of (k := 5) (by decide +kernel) rfl ?_
  show J E I_M_comes (rmk 2 0 0) (QR E I_M_comes (rmk 2 0 0)) 0 0 μ 0 [some (.inl a0), some (.inl a1), none, none, none, none, none] [] (f_M_comes a0 a1 μ)
  unfold f_M_comes
  refine J_iload_n zd_M_comes_0 rfl ?_
  refine J_iconst (v := 3) zd_M_comes_1 (by decide) ?_
  refine J_iremL zd_M_comes_2 (by decide) ?_
  refine J_nm (fun v1 => ?_)
  refine J_istore_n (lv' := [some _, some _, some _, none, none, none, none]) zd_M_comes_3 (Nat.le_of_ble_eq_true rfl) rfl ?_
  refine J_iload_n zd_M_comes_4 rfl ?_
  refine J_iconst (v := 3) zd_M_comes_5 (by decide) ?_
  refine J_idivL zd_M_comes_6 (by decide) ?_
  refine J_iconst (v := 3) zd_M_comes_7 (by decide) ?_
  refine J_iremL zd_M_comes_8 (by decide) ?_
  refine J_nm (fun v2 => ?_)
  refine J_istore_n (lv' := [some _, some _, some _, some _, none, none, none]) zd_M_comes_9 (Nat.le_of_ble_eq_true rfl) rfl ?_
  refine J_iload_n zd_M_comes_10 rfl ?_
  refine J_bipush (v := 9) zd_M_comes_11 (by decide) ?_
  refine J_idivL zd_M_comes_13 (by decide) ?_
  refine J_iconst (v := 3) zd_M_comes_14 (by decide) ?_
  refine J_iremL zd_M_comes_15 (by decide) ?_
  refine J_nm (fun v3 => ?_)
  refine J_istore (lv' := [some _, some _, some _, some _, some _, none, none]) zd_M_comes_16 (Nat.le_of_ble_eq_true rfl) rfl ?_
  refine J_iload_n zd_M_comes_18 rfl ?_
  refine J_bipush (v := 27) zd_M_comes_19 (by decide) ?_
  refine J_idivL zd_M_comes_21 (by decide) ?_
  refine J_bipush (v := 7) zd_M_comes_22 (by decide) ?_
  refine J_iremL zd_M_comes_24 (by decide) ?_
  refine J_nm (fun v4 => ?_)
  refine J_istore (lv' := [some _, some _, some _, some _, some _, some _, none]) zd_M_comes_25 (Nat.le_of_ble_eq_true rfl) rfl ?_
  refine J_iload_n zd_M_comes_27 rfl ?_
  refine J_sipush (v := 189) zd_M_comes_28 (by decide) ?_
  refine J_idivL zd_M_comes_31 (by decide) ?_
  refine J_nm (fun v5 => ?_)
  refine J_istore (lv' := [some _, some _, some _, some _, some _, some _, some _]) zd_M_comes_32 (Nat.le_of_ble_eq_true rfl) rfl ?_
  refine J_iload_n zd_M_comes_34 rfl ?_
  refine J_bipush (v := 8) zd_M_comes_35 (by decide) ?_
  refine J_iand zd_M_comes_37 ?_
  refine J_if_eq (tgt := 53) zd_M_comes_38 rfl ?_ ?_
  · refine J_iload zd_M_comes_53 rfl ?_
    refine J_bipush (v := 6) zd_M_comes_55 (by decide) ?_
    refine J_callSi (as := [.inl _, .inl _]) zd_M_comes_57 zm_M_more ⟨Nat.le_of_ble_eq_true rfl, Nat.le_of_ble_eq_true rfl⟩ zw_880 zw_881 rfl (Nat.le_of_ble_eq_true rfl) ⟨Nat.le_of_ble_eq_true rfl, Nat.le_of_ble_eq_true rfl⟩ rfl rfl (c_M_more E _ _ _) (fun v7 μ6 => ?_)
    refine J_istore (lv' := [some _, some _, some _, some _, some _, some _, some _]) zd_M_comes_60 (Nat.le_of_ble_eq_true rfl) rfl ?_
    refine J_iload_n zd_M_comes_62 rfl ?_
    refine J_iconst (v := 3) zd_M_comes_63 (by decide) ?_
    refine J_iand zd_M_comes_64 ?_
    refine J_iconst (v := 3) zd_M_comes_65 (by decide) ?_
    refine J_icmp_ne (tgt := 78) zd_M_comes_66 rfl ?_ ?_
    · refine J_iload_n zd_M_comes_78 rfl ?_
      refine J_iconst (v := 3) zd_M_comes_79 (by decide) ?_
      refine J_iand zd_M_comes_80 ?_
      refine J_iconst (v := 2) zd_M_comes_81 (by decide) ?_
      refine J_icmp_ne (tgt := 94) zd_M_comes_82 rfl ?_ ?_
      · refine J_iload_n zd_M_comes_94 rfl ?_
        refine J_iconst (v := 3) zd_M_comes_95 (by decide) ?_
        refine J_iand zd_M_comes_96 ?_
        refine J_iconst (v := 1) zd_M_comes_97 (by decide) ?_
        refine J_icmp_ne (tgt := 109) zd_M_comes_98 rfl ?_ ?_
        · refine J_wid (k := 0) (n := 0) (Nat.le_of_ble_eq_true rfl) (Nat.le_of_ble_eq_true rfl) ?_
          refine J_keep [false, false, true, true, true, true, true] rfl ?_
          exact j_M_comes_109 E _ _ _ _ _ _
        · refine J_iload zd_M_comes_101 rfl ?_
          refine J_iconst (v := 2) zd_M_comes_103 (by decide) ?_
          refine J_callSi (as := [.inl _, .inl _]) zd_M_comes_104 zm_M_more ⟨Nat.le_of_ble_eq_true rfl, Nat.le_of_ble_eq_true rfl⟩ zw_880 zw_881 rfl (Nat.le_of_ble_eq_true rfl) ⟨Nat.le_of_ble_eq_true rfl, Nat.le_of_ble_eq_true rfl⟩ rfl rfl (c_M_more E _ _ _) (fun v9 μ8 => ?_)
          refine J_istore (lv' := [some _, some _, some _, some _, some _, some _, some _]) zd_M_comes_107 (Nat.le_of_ble_eq_true rfl) rfl ?_
          refine J_wid (k := 0) (n := 0) (Nat.le_of_ble_eq_true rfl) (Nat.le_of_ble_eq_true rfl) ?_
          refine J_keep [false, false, true, true, true, true, true] rfl ?_
          exact j_M_comes_109 E _ _ _ _ _ _
      · refine J_iload_n zd_M_comes_85 rfl ?_
        refine J_iconst (v := 2) zd_M_comes_86 (by decide) ?_
        refine J_callSi (as := [.inl _, .inl _]) zd_M_comes_87 zm_M_more ⟨Nat.le_of_ble_eq_true rfl, Nat.le_of_ble_eq_true rfl⟩ zw_880 zw_881 rfl (Nat.le_of_ble_eq_true rfl) ⟨Nat.le_of_ble_eq_true rfl, Nat.le_of_ble_eq_true rfl⟩ rfl rfl (c_M_more E _ _ _) (fun v11 μ10 => ?_)
        refine J_istore_n (lv' := [some _, some _, some _, some _, some _, some _, some _]) zd_M_comes_90 (Nat.le_of_ble_eq_true rfl) rfl ?_
        refine J_goto (tgt := 109) zd_M_comes_91 rfl ?_
        refine J_wid (k := 0) (n := 0) (Nat.le_of_ble_eq_true rfl) (Nat.le_of_ble_eq_true rfl) ?_
        refine J_keep [false, false, true, true, true, true, true] rfl ?_
        exact j_M_comes_109 E _ _ _ _ _ _
    · refine J_iload_n zd_M_comes_69 rfl ?_
      refine J_iconst (v := 2) zd_M_comes_70 (by decide) ?_
      refine J_callSi (as := [.inl _, .inl _]) zd_M_comes_71 zm_M_more ⟨Nat.le_of_ble_eq_true rfl, Nat.le_of_ble_eq_true rfl⟩ zw_880 zw_881 rfl (Nat.le_of_ble_eq_true rfl) ⟨Nat.le_of_ble_eq_true rfl, Nat.le_of_ble_eq_true rfl⟩ rfl rfl (c_M_more E _ _ _) (fun v13 μ12 => ?_)
      refine J_istore_n (lv' := [some _, some _, some _, some _, some _, some _, some _]) zd_M_comes_74 (Nat.le_of_ble_eq_true rfl) rfl ?_
      refine J_goto (tgt := 109) zd_M_comes_75 rfl ?_
      refine J_wid (k := 0) (n := 0) (Nat.le_of_ble_eq_true rfl) (Nat.le_of_ble_eq_true rfl) ?_
      refine J_keep [false, false, true, true, true, true, true] rfl ?_
      exact j_M_comes_109 E _ _ _ _ _ _
  · refine J_iload zd_M_comes_41 rfl ?_
    refine J_bipush (v := 6) zd_M_comes_43 (by decide) ?_
    refine J_callSi (as := [.inl _, .inl _]) zd_M_comes_45 zm_M_more ⟨Nat.le_of_ble_eq_true rfl, Nat.le_of_ble_eq_true rfl⟩ zw_880 zw_881 rfl (Nat.le_of_ble_eq_true rfl) ⟨Nat.le_of_ble_eq_true rfl, Nat.le_of_ble_eq_true rfl⟩ rfl rfl (c_M_more E _ _ _) (fun v15 μ14 => ?_)
    refine J_istore (lv' := [some _, some _, some _, some _, some _, some _, some _]) zd_M_comes_48 (Nat.le_of_ble_eq_true rfl) rfl ?_
    refine J_goto (tgt := 109) zd_M_comes_50 rfl ?_
    refine J_wid (k := 0) (n := 0) (Nat.le_of_ble_eq_true rfl) (Nat.le_of_ble_eq_true rfl) ?_
    refine J_keep [false, false, true, true, true, true, true] rfl ?_
    exact j_M_comes_109 E _ _ _ _ _ _
def b_M_stands_48  (a0 : Nat) (a2 : Int32) (a3 : Int32) (a4 : Int32) (s0 : Int32) (s1 : Int32) (μ : Mem) : Option (LV × Mem) := nm (s1 + s0) (fun v1 => gI 10 a0 5 μ (fun v2 => (if v1 < v2 then (some (.inl 0, μ)) else (if (a4 + a2) ≤ 0 then (some (.inl 0, μ)) else (if (a3 + a2) ≤ 0 then (some (.inl 0, μ)) else (if ((a4 + a3) + a2) ≤ 1 then (some (.inl 0, μ)) else (some (.inl 1, μ))))))))
set_option maxRecDepth 20000 in
theorem j_M_stands_48 (E : EV) (a0 : Nat) (a2 : Int32) (a3 : Int32) (a4 : Int32) (s0 : Int32) (s1 : Int32) (μ : Mem)  : J E I_M_stands (rmk 1 0 0) (QR E I_M_stands (rmk 1 0 0)) 0 0 μ 48 [some (.inr a0), none, some (.inl a2), some (.inl a3), some (.inl a4), none, none, none] [.inl s0, .inl s1] (b_M_stands_48 a0 a2 a3 a4 s0 s1 μ) := by
  unfold b_M_stands_48
  refine J_iadd zd_M_stands_48 ?_
  refine J_nm (fun v1 => ?_)
  refine J_istore (lv' := [some _, none, some _, some _, some _, none, none, some _]) zd_M_stands_49 (Nat.le_of_ble_eq_true rfl) rfl ?_
  refine J_iload zd_M_stands_51 rfl ?_
  refine J_aload_n zd_M_stands_53 rfl ?_
  refine J_gI zd_M_stands_54 zf_M_7 rfl (fun v2 => ?_)
  refine J_icmp_lt (tgt := 87) zd_M_stands_57 rfl ?_ ?_
  · refine J_iconst (v := 0) zd_M_stands_87 (by decide) ?_
    exact J_zret zd_M_stands_88 rfl rfl (Nat.le_of_ble_eq_true rfl) (Nat.le_of_ble_eq_true rfl)
  · refine J_iload zd_M_stands_60 rfl ?_
    refine J_iload_n zd_M_stands_62 rfl ?_
    refine J_iadd zd_M_stands_63 ?_
    refine J_if_le (tgt := 87) zd_M_stands_64 rfl ?_ ?_
    · refine J_iconst (v := 0) zd_M_stands_87 (by decide) ?_
      exact J_zret zd_M_stands_88 rfl rfl (Nat.le_of_ble_eq_true rfl) (Nat.le_of_ble_eq_true rfl)
    · refine J_iload_n zd_M_stands_67 rfl ?_
      refine J_iload_n zd_M_stands_68 rfl ?_
      refine J_iadd zd_M_stands_69 ?_
      refine J_if_le (tgt := 87) zd_M_stands_70 rfl ?_ ?_
      · refine J_iconst (v := 0) zd_M_stands_87 (by decide) ?_
        exact J_zret zd_M_stands_88 rfl rfl (Nat.le_of_ble_eq_true rfl) (Nat.le_of_ble_eq_true rfl)
      · refine J_iload zd_M_stands_73 rfl ?_
        refine J_iload_n zd_M_stands_75 rfl ?_
        refine J_iadd zd_M_stands_76 ?_
        refine J_iload_n zd_M_stands_77 rfl ?_
        refine J_iadd zd_M_stands_78 ?_
        refine J_iconst (v := 1) zd_M_stands_79 (by decide) ?_
        refine J_icmp_le (tgt := 87) zd_M_stands_80 rfl ?_ ?_
        · refine J_iconst (v := 0) zd_M_stands_87 (by decide) ?_
          exact J_zret zd_M_stands_88 rfl rfl (Nat.le_of_ble_eq_true rfl) (Nat.le_of_ble_eq_true rfl)
        · refine J_iconst (v := 1) zd_M_stands_83 (by decide) ?_
          refine J_goto (tgt := 88) zd_M_stands_84 rfl ?_
          exact J_zret zd_M_stands_88 rfl rfl (Nat.le_of_ble_eq_true rfl) (Nat.le_of_ble_eq_true rfl)
def f_M_stands (a0 : Nat) (a1 : Int32) (μ : Mem) : Option (LV × Mem) := nm (irm a1 3) (fun v3 => nm (irm (a1 / 3) 3) (fun v4 => nm (irm (a1 / 9) 3) (fun v5 => nm (irm (a1 / 27) 7) (fun v6 => nm (a1 / 189) (fun v7 => (if v7 ≤ 1 then (b_M_stands_48 a0 v3 v4 v5 0 v7 μ) else (b_M_stands_48 a0 v3 v4 v5 v6 v7 μ)))))))
set_option maxRecDepth 20000 in
theorem c_M_stands (E : EV) (a0 : Nat) (a1 : Int32) (μ : Mem) : Ct E I_M_stands (rmk 1 0 0) [.inr a0, .inl a1] μ (f_M_stands a0 a1 μ) := by
  refine Ct.of (k := 6) (by decide +kernel) rfl ?_
  show J E I_M_stands (rmk 1 0 0) (QR E I_M_stands (rmk 1 0 0)) 0 0 μ 0 [some (.inr a0), some (.inl a1), none, none, none, none, none, none] [] (f_M_stands a0 a1 μ)
  unfold f_M_stands
  refine J_iload_n zd_M_stands_0 rfl ?_
  refine J_iconst (v := 3) zd_M_stands_1 (by decide) ?_
  refine J_iremL zd_M_stands_2 (by decide) ?_
  refine J_nm (fun v3 => ?_)
  refine J_istore_n (lv' := [some _, some _, some _, none, none, none, none, none]) zd_M_stands_3 (Nat.le_of_ble_eq_true rfl) rfl ?_
  refine J_iload_n zd_M_stands_4 rfl ?_
  refine J_iconst (v := 3) zd_M_stands_5 (by decide) ?_
  refine J_idivL zd_M_stands_6 (by decide) ?_
  refine J_iconst (v := 3) zd_M_stands_7 (by decide) ?_
  refine J_iremL zd_M_stands_8 (by decide) ?_
  refine J_nm (fun v4 => ?_)
  refine J_istore_n (lv' := [some _, some _, some _, some _, none, none, none, none]) zd_M_stands_9 (Nat.le_of_ble_eq_true rfl) rfl ?_
  refine J_iload_n zd_M_stands_10 rfl ?_
  refine J_bipush (v := 9) zd_M_stands_11 (by decide) ?_
  refine J_idivL zd_M_stands_13 (by decide) ?_
  refine J_iconst (v := 3) zd_M_stands_14 (by decide) ?_
  refine J_iremL zd_M_stands_15 (by decide) ?_
  refine J_nm (fun v5 => ?_)
  refine J_istore (lv' := [some _, some _, some _, some _, some _, none, none, none]) zd_M_stands_16 (Nat.le_of_ble_eq_true rfl) rfl ?_
  refine J_iload_n zd_M_stands_18 rfl ?_
  refine J_bipush (v := 27) zd_M_stands_19 (by decide) ?_
  refine J_idivL zd_M_stands_21 (by decide) ?_
  refine J_bipush (v := 7) zd_M_stands_22 (by decide) ?_
  refine J_iremL zd_M_stands_24 (by decide) ?_
  refine J_nm (fun v6 => ?_)
  refine J_istore (lv' := [some _, some _, some _, some _, some _, some _, none, none]) zd_M_stands_25 (Nat.le_of_ble_eq_true rfl) rfl ?_
  refine J_iload_n zd_M_stands_27 rfl ?_
  refine J_sipush (v := 189) zd_M_stands_28 (by decide) ?_
  refine J_idivL zd_M_stands_31 (by decide) ?_
  refine J_nm (fun v7 => ?_)
  refine J_istore (lv' := [some _, some _, some _, some _, some _, some _, some _, none]) zd_M_stands_32 (Nat.le_of_ble_eq_true rfl) rfl ?_
  refine J_iload zd_M_stands_34 rfl ?_
  refine J_iload zd_M_stands_36 rfl ?_
  refine J_iconst (v := 1) zd_M_stands_38 (by decide) ?_
  refine J_icmp_le (tgt := 47) zd_M_stands_39 rfl ?_ ?_
  · refine J_iconst (v := 0) zd_M_stands_47 (by decide) ?_
    refine J_wid (k := 0) (n := 0) (Nat.le_of_ble_eq_true rfl) (Nat.le_of_ble_eq_true rfl) ?_
    refine J_keep [true, false, true, true, true, false, false, false] rfl ?_
    exact j_M_stands_48 E _ _ _ _ _ _ _
  · refine J_iload zd_M_stands_42 rfl ?_
    refine J_goto (tgt := 48) zd_M_stands_44 rfl ?_
    refine J_wid (k := 0) (n := 0) (Nat.le_of_ble_eq_true rfl) (Nat.le_of_ble_eq_true rfl) ?_
    refine J_keep [true, false, true, true, true, false, false, false] rfl ?_
    exact j_M_stands_48 E _ _ _ _ _ _ _
def k_M_chanceOf_2 (c22 : Nat → Int32 → Int32 → Mem → Option (LV × Mem)) (a0 : Nat) (a1 : Int32) (a2 : Int32) : Nat → Int32 → Mem → Option (LV × Mem)
  | 0, _, _ => none
  | n + 1, a3, μ => (if 1323 ≤ a3 then (c22 a0 a1 a2 μ) else gR 10 a0 32 μ (fun r1 => aS r1 a3 0 μ (fun μ2 => (k_M_chanceOf_2 c22 a0 a1 a2 n (a3 + 1) μ2))))
set_option maxRecDepth 20000 in
theorem j_M_chanceOf_2 (E : EV) (a0 : Nat) (a1 : Int32) (a2 : Int32) {c22 : Nat → Int32 → Int32 → Mem → Option (LV × Mem)} (h22 : ∀ (b0 : Nat) (b1 : Int32) (b2 : Int32)  (μ : Mem), J E I_M_chanceOf (rmk 4 0 0) (QR E I_M_chanceOf (rmk 4 0 0)) 0 0 μ 22 [some (.inr b0), some (.inl b1), some (.inl b2), none, none, none, none] [] (c22 b0 b1 b2 μ)) : ∀ (n : Nat) (a3 : Int32) (μ : Mem), J E I_M_chanceOf (rmk 4 0 0) (QR E I_M_chanceOf (rmk 4 0 0)) 0 0 μ 2 [some (.inr a0), some (.inl a1), some (.inl a2), some (.inl a3), none, none, none] [] (k_M_chanceOf_2 c22 a0 a1 a2 n a3 μ)
  | 0, _, _ => J_none
  | n + 1, a3, μ => by
    show J E I_M_chanceOf (rmk 4 0 0) (QR E I_M_chanceOf (rmk 4 0 0)) 0 0 μ 2 [some (.inr a0), some (.inl a1), some (.inl a2), some (.inl a3), none, none, none] [] ((if 1323 ≤ a3 then (c22 a0 a1 a2 μ) else gR 10 a0 32 μ (fun r1 => aS r1 a3 0 μ (fun μ2 => (k_M_chanceOf_2 c22 a0 a1 a2 n (a3 + 1) μ2)))))
    refine J_iload_n zd_M_chanceOf_2 rfl ?_
    refine J_sipush (v := 1323) zd_M_chanceOf_3 (by decide) ?_
    refine J_icmp_ge (tgt := 22) zd_M_chanceOf_6 rfl ?_ ?_
    · refine J_wid (k := 0) (n := 0) (Nat.le_of_ble_eq_true rfl) (Nat.le_of_ble_eq_true rfl) ?_
      refine J_keep [true, true, true, false, false, false, false] rfl ?_
      exact h22 _ _ _ _
    · refine J_aload_n zd_M_chanceOf_9 rfl ?_
      refine J_gR zd_M_chanceOf_10 zf_M_92 rfl (fun r1 => ?_)
      refine J_iload_n zd_M_chanceOf_13 rfl ?_
      refine J_iconst (v := 0) zd_M_chanceOf_14 (by decide) ?_
      refine J_aS zd_M_chanceOf_15 (fun μ2 => ?_)
      refine J_iinc (v := _ + 1) (lv' := [some _, some _, some _, some _, none, none, none]) zd_M_chanceOf_16 (Nat.le_of_ble_eq_true rfl) rfl (by rfl) rfl ?_
      refine J_goto (tgt := 2) zd_M_chanceOf_19 rfl ?_
      refine J_wid (k := 0) (n := 0) (Nat.le_of_ble_eq_true rfl) (Nat.le_of_ble_eq_true rfl) ?_
      refine J_keep [true, true, true, true, false, false, false] rfl ?_
      exact j_M_chanceOf_2 E a0 a1 a2 h22 n _ _
def k_M_chanceOf_85 (c107 : Int32 → Int32 → Mem → Option (LV × Mem)) (a0 : Nat) (a1 : Int32) (a2 : Int32) (a3 : Int32) (a4 : Int32) : Nat → Int32 → Mem → Option (LV × Mem)
  | 0, _, _ => none
  | n + 1, a5, μ => (if 1323 ≤ a5 then (c107 a3 a4 μ) else gR 10 a0 33 μ (fun r3 => aS r3 a5 0 μ (fun μ4 => (k_M_chanceOf_85 c107 a0 a1 a2 a3 a4 n (a5 + 1) μ4))))
set_option maxRecDepth 20000 in
theorem j_M_chanceOf_85 (E : EV) (a0 : Nat) (a1 : Int32) (a2 : Int32) (a3 : Int32) (a4 : Int32) {c107 : Int32 → Int32 → Mem → Option (LV × Mem)} (h107 : ∀ (b3 : Int32) (b4 : Int32)  (μ : Mem), J E I_M_chanceOf (rmk 4 0 0) (QR E I_M_chanceOf (rmk 4 0 0)) 0 0 μ 107 [some (.inr a0), some (.inl a1), some (.inl a2), some (.inl b3), some (.inl b4), none, none] [] (c107 b3 b4 μ)) : ∀ (n : Nat) (a5 : Int32) (μ : Mem), J E I_M_chanceOf (rmk 4 0 0) (QR E I_M_chanceOf (rmk 4 0 0)) 0 0 μ 85 [some (.inr a0), some (.inl a1), some (.inl a2), some (.inl a3), some (.inl a4), some (.inl a5), none] [] (k_M_chanceOf_85 c107 a0 a1 a2 a3 a4 n a5 μ)
  | 0, _, _ => J_none
  | n + 1, a5, μ => by
    show J E I_M_chanceOf (rmk 4 0 0) (QR E I_M_chanceOf (rmk 4 0 0)) 0 0 μ 85 [some (.inr a0), some (.inl a1), some (.inl a2), some (.inl a3), some (.inl a4), some (.inl a5), none] [] ((if 1323 ≤ a5 then (c107 a3 a4 μ) else gR 10 a0 33 μ (fun r3 => aS r3 a5 0 μ (fun μ4 => (k_M_chanceOf_85 c107 a0 a1 a2 a3 a4 n (a5 + 1) μ4)))))
    refine J_iload zd_M_chanceOf_85 rfl ?_
    refine J_sipush (v := 1323) zd_M_chanceOf_87 (by decide) ?_
    refine J_icmp_ge (tgt := 107) zd_M_chanceOf_90 rfl ?_ ?_
    · refine J_wid (k := 0) (n := 0) (Nat.le_of_ble_eq_true rfl) (Nat.le_of_ble_eq_true rfl) ?_
      refine J_keep [true, true, true, true, true, false, false] rfl ?_
      exact h107 _ _ _
    · refine J_aload_n zd_M_chanceOf_93 rfl ?_
      refine J_gR zd_M_chanceOf_94 zf_M_95 rfl (fun r3 => ?_)
      refine J_iload zd_M_chanceOf_97 rfl ?_
      refine J_iconst (v := 0) zd_M_chanceOf_99 (by decide) ?_
      refine J_aS zd_M_chanceOf_100 (fun μ4 => ?_)
      refine J_iinc (v := _ + 1) (lv' := [some _, some _, some _, some _, some _, some _, none]) zd_M_chanceOf_101 (Nat.le_of_ble_eq_true rfl) rfl (by rfl) rfl ?_
      refine J_goto (tgt := 85) zd_M_chanceOf_104 rfl ?_
      refine J_wid (k := 0) (n := 0) (Nat.le_of_ble_eq_true rfl) (Nat.le_of_ble_eq_true rfl) ?_
      refine J_keep [true, true, true, true, true, true, false] rfl ?_
      exact j_M_chanceOf_85 E a0 a1 a2 a3 a4 h107 n _ _
def b_M_chanceOf_205 (c110 : Int32 → Mem → Option (LV × Mem)) (a0 : Nat) (a1 : Int32) (a2 : Int32) (a3 : Int32) (a4 : Int32) (a5 : Int32)  (μ : Mem) : Option (LV × Mem) := (c110 (a5 + 1) μ)
set_option maxRecDepth 20000 in
theorem j_M_chanceOf_205 (E : EV) (a0 : Nat) (a1 : Int32) (a2 : Int32) (a3 : Int32) (a4 : Int32) (a5 : Int32)  (μ : Mem) {c110 : Int32 → Mem → Option (LV × Mem)} (h110 : ∀ (b5 : Int32)  (μ : Mem), J E I_M_chanceOf (rmk 4 0 0) (QR E I_M_chanceOf (rmk 4 0 0)) 0 0 μ 110 [some (.inr a0), some (.inl a1), some (.inl a2), some (.inl a3), some (.inl a4), some (.inl b5), none] [] (c110 b5 μ)) : J E I_M_chanceOf (rmk 4 0 0) (QR E I_M_chanceOf (rmk 4 0 0)) 0 0 μ 205 [some (.inr a0), some (.inl a1), some (.inl a2), some (.inl a3), some (.inl a4), some (.inl a5), none] [] (b_M_chanceOf_205 c110 a0 a1 a2 a3 a4 a5 μ) := by
  unfold b_M_chanceOf_205
  refine J_iinc (v := _ + 1) (lv' := [some _, some _, some _, some _, some _, some _, none]) zd_M_chanceOf_205 (Nat.le_of_ble_eq_true rfl) rfl (by rfl) rfl ?_
  refine J_goto (tgt := 110) zd_M_chanceOf_208 rfl ?_
  refine J_wid (k := 0) (n := 0) (Nat.le_of_ble_eq_true rfl) (Nat.le_of_ble_eq_true rfl) ?_
  refine J_keep [true, true, true, true, true, true, false] rfl ?_
  exact h110 _ _
def b_M_chanceOf_164 (c110 : Int32 → Mem → Option (LV × Mem)) (a0 : Nat) (a1 : Int32) (a2 : Int32) (a3 : Int32) (a4 : Int32) (a5 : Int32) (a6 : Int32)  (μ : Mem) : Option (LV × Mem) := gR 10 a0 33 μ (fun r5 => gR 10 a0 10 μ (fun r6 => aI r6 a3 μ (fun v7 => bI (f_M_comes a5 v7 μ) (fun v9 μ8 => aI r5 v9 μ8 (fun v10 => aS r5 v9 (v10 + a6) μ8 (fun μ11 => gR 10 a0 33 μ11 (fun r12 => aI r12 a5 μ11 (fun v13 => gR 10 a0 32 μ11 (fun r14 => aI r14 a5 μ11 (fun v15 => aS r12 a5 (v13 + (v15 - a6)) μ11 (fun μ16 => (b_M_chanceOf_205 c110 a0 a1 a2 a3 a4 a5 μ16))))))))))))
set_option maxRecDepth 20000 in
theorem j_M_chanceOf_164 (E : EV) (a0 : Nat) (a1 : Int32) (a2 : Int32) (a3 : Int32) (a4 : Int32) (a5 : Int32) (a6 : Int32)  (μ : Mem) {c110 : Int32 → Mem → Option (LV × Mem)} (h110 : ∀ (b5 : Int32)  (μ : Mem), J E I_M_chanceOf (rmk 4 0 0) (QR E I_M_chanceOf (rmk 4 0 0)) 0 0 μ 110 [some (.inr a0), some (.inl a1), some (.inl a2), some (.inl a3), some (.inl a4), some (.inl b5), none] [] (c110 b5 μ)) : J E I_M_chanceOf (rmk 4 0 0) (QR E I_M_chanceOf (rmk 4 0 0)) 0 0 μ 164 [some (.inr a0), some (.inl a1), some (.inl a2), some (.inl a3), some (.inl a4), some (.inl a5), some (.inl a6)] [] (b_M_chanceOf_164 c110 a0 a1 a2 a3 a4 a5 a6 μ) := by
  unfold b_M_chanceOf_164
  refine J_aload_n zd_M_chanceOf_164 rfl ?_
  refine J_gR zd_M_chanceOf_165 zf_M_95 rfl (fun r5 => ?_)
  refine J_iload zd_M_chanceOf_168 rfl ?_
  refine J_aload_n zd_M_chanceOf_170 rfl ?_
  refine J_gR zd_M_chanceOf_171 zf_M_26 rfl (fun r6 => ?_)
  refine J_iload_n zd_M_chanceOf_174 rfl ?_
  refine J_aI zd_M_chanceOf_175 (fun v7 => ?_)
  refine J_callSi (as := [.inl _, .inl _]) zd_M_chanceOf_176 zm_M_comes ⟨Nat.le_of_ble_eq_true rfl, Nat.le_of_ble_eq_true rfl⟩ zw_877 zw_878 rfl (Nat.le_of_ble_eq_true rfl) ⟨Nat.le_of_ble_eq_true rfl, Nat.le_of_ble_eq_true rfl⟩ rfl rfl (c_M_comes E _ _ _) (fun v9 μ8 => ?_)
  refine J_dup2 zd_M_chanceOf_179 ?_
  refine J_aI zd_M_chanceOf_180 (fun v10 => ?_)
  refine J_iload zd_M_chanceOf_181 rfl ?_
  refine J_iadd zd_M_chanceOf_183 ?_
  refine J_aS zd_M_chanceOf_184 (fun μ11 => ?_)
  refine J_aload_n zd_M_chanceOf_185 rfl ?_
  refine J_gR zd_M_chanceOf_186 zf_M_95 rfl (fun r12 => ?_)
  refine J_iload zd_M_chanceOf_189 rfl ?_
  refine J_dup2 zd_M_chanceOf_191 ?_
  refine J_aI zd_M_chanceOf_192 (fun v13 => ?_)
  refine J_aload_n zd_M_chanceOf_193 rfl ?_
  refine J_gR zd_M_chanceOf_194 zf_M_92 rfl (fun r14 => ?_)
  refine J_iload zd_M_chanceOf_197 rfl ?_
  refine J_aI zd_M_chanceOf_199 (fun v15 => ?_)
  refine J_iload zd_M_chanceOf_200 rfl ?_
  refine J_isub zd_M_chanceOf_202 ?_
  refine J_iadd zd_M_chanceOf_203 ?_
  refine J_aS zd_M_chanceOf_204 (fun μ16 => ?_)
  refine J_wid (k := 0) (n := 0) (Nat.le_of_ble_eq_true rfl) (Nat.le_of_ble_eq_true rfl) ?_
  refine J_keep [true, true, true, true, true, true, false] rfl ?_
  exact j_M_chanceOf_205 E _ _ _ _ _ _ _ h110
def k_M_chanceOf_110 (c211 : Int32 → Mem → Option (LV × Mem)) (a0 : Nat) (a1 : Int32) (a2 : Int32) (a3 : Int32) (a4 : Int32) : Nat → Int32 → Mem → Option (LV × Mem)
  | 0, _, _ => none
  | n + 1, a5, μ => (if 1323 ≤ a5 then (c211 a3 μ) else gR 10 a0 32 μ (fun r17 => aI r17 a5 μ (fun v18 => (if v18 = 0 then (b_M_chanceOf_205 (k_M_chanceOf_110 c211 a0 a1 a2 a3 a4 n) a0 a1 a2 a3 a4 a5 μ) else gR 10 a0 32 μ (fun r19 => aI r19 a5 μ (fun v20 => nm ((v20 * a4) / 1024) (fun v21 => (if a4 = 1024 then gR 10 a0 32 μ (fun r22 => aI r22 a5 μ (fun v23 => (b_M_chanceOf_164 (k_M_chanceOf_110 c211 a0 a1 a2 a3 a4 n) a0 a1 a2 a3 a4 a5 v23 μ))) else (b_M_chanceOf_164 (k_M_chanceOf_110 c211 a0 a1 a2 a3 a4 n) a0 a1 a2 a3 a4 a5 v21 μ)))))))))
set_option maxRecDepth 20000 in
theorem j_M_chanceOf_110 (E : EV) (a0 : Nat) (a1 : Int32) (a2 : Int32) (a3 : Int32) (a4 : Int32) {c211 : Int32 → Mem → Option (LV × Mem)} (h211 : ∀ (b3 : Int32)  (μ : Mem), J E I_M_chanceOf (rmk 4 0 0) (QR E I_M_chanceOf (rmk 4 0 0)) 0 0 μ 211 [some (.inr a0), some (.inl a1), some (.inl a2), some (.inl b3), none, none, none] [] (c211 b3 μ)) : ∀ (n : Nat) (a5 : Int32) (μ : Mem), J E I_M_chanceOf (rmk 4 0 0) (QR E I_M_chanceOf (rmk 4 0 0)) 0 0 μ 110 [some (.inr a0), some (.inl a1), some (.inl a2), some (.inl a3), some (.inl a4), some (.inl a5), none] [] (k_M_chanceOf_110 c211 a0 a1 a2 a3 a4 n a5 μ)
  | 0, _, _ => J_none
  | n + 1, a5, μ => by
    show J E I_M_chanceOf (rmk 4 0 0) (QR E I_M_chanceOf (rmk 4 0 0)) 0 0 μ 110 [some (.inr a0), some (.inl a1), some (.inl a2), some (.inl a3), some (.inl a4), some (.inl a5), none] [] ((if 1323 ≤ a5 then (c211 a3 μ) else gR 10 a0 32 μ (fun r17 => aI r17 a5 μ (fun v18 => (if v18 = 0 then (b_M_chanceOf_205 (k_M_chanceOf_110 c211 a0 a1 a2 a3 a4 n) a0 a1 a2 a3 a4 a5 μ) else gR 10 a0 32 μ (fun r19 => aI r19 a5 μ (fun v20 => nm ((v20 * a4) / 1024) (fun v21 => (if a4 = 1024 then gR 10 a0 32 μ (fun r22 => aI r22 a5 μ (fun v23 => (b_M_chanceOf_164 (k_M_chanceOf_110 c211 a0 a1 a2 a3 a4 n) a0 a1 a2 a3 a4 a5 v23 μ))) else (b_M_chanceOf_164 (k_M_chanceOf_110 c211 a0 a1 a2 a3 a4 n) a0 a1 a2 a3 a4 a5 v21 μ))))))))))
    refine J_iload zd_M_chanceOf_110 rfl ?_
    refine J_sipush (v := 1323) zd_M_chanceOf_112 (by decide) ?_
    refine J_icmp_ge (tgt := 211) zd_M_chanceOf_115 rfl ?_ ?_
    · refine J_wid (k := 0) (n := 0) (Nat.le_of_ble_eq_true rfl) (Nat.le_of_ble_eq_true rfl) ?_
      refine J_keep [true, true, true, true, false, false, false] rfl ?_
      exact h211 _ _
    · refine J_aload_n zd_M_chanceOf_118 rfl ?_
      refine J_gR zd_M_chanceOf_119 zf_M_92 rfl (fun r17 => ?_)
      refine J_iload zd_M_chanceOf_122 rfl ?_
      refine J_aI zd_M_chanceOf_124 (fun v18 => ?_)
      refine J_if_ne (tgt := 131) zd_M_chanceOf_125 rfl ?_ ?_
      · refine J_aload_n zd_M_chanceOf_131 rfl ?_
        refine J_gR zd_M_chanceOf_132 zf_M_92 rfl (fun r19 => ?_)
        refine J_iload zd_M_chanceOf_135 rfl ?_
        refine J_aI zd_M_chanceOf_137 (fun v20 => ?_)
        refine J_iload zd_M_chanceOf_138 rfl ?_
        refine J_imul zd_M_chanceOf_140 ?_
        refine J_sipush (v := 1024) zd_M_chanceOf_141 (by decide) ?_
        refine J_idivL zd_M_chanceOf_144 (by decide) ?_
        refine J_nm (fun v21 => ?_)
        refine J_istore (lv' := [some _, some _, some _, some _, some _, some _, some _]) zd_M_chanceOf_145 (Nat.le_of_ble_eq_true rfl) rfl ?_
        refine J_iload zd_M_chanceOf_147 rfl ?_
        refine J_sipush (v := 1024) zd_M_chanceOf_149 (by decide) ?_
        refine J_icmp_ne (tgt := 164) zd_M_chanceOf_152 rfl ?_ ?_
        · refine J_wid (k := 0) (n := 0) (Nat.le_of_ble_eq_true rfl) (Nat.le_of_ble_eq_true rfl) ?_
          refine J_keep [true, true, true, true, true, true, true] rfl ?_
          exact j_M_chanceOf_164 E _ _ _ _ _ _ _ _ (j_M_chanceOf_110 E a0 a1 a2 a3 a4 h211 n)
        · refine J_aload_n zd_M_chanceOf_155 rfl ?_
          refine J_gR zd_M_chanceOf_156 zf_M_92 rfl (fun r22 => ?_)
          refine J_iload zd_M_chanceOf_159 rfl ?_
          refine J_aI zd_M_chanceOf_161 (fun v23 => ?_)
          refine J_istore (lv' := [some _, some _, some _, some _, some _, some _, some _]) zd_M_chanceOf_162 (Nat.le_of_ble_eq_true rfl) rfl ?_
          refine J_wid (k := 0) (n := 0) (Nat.le_of_ble_eq_true rfl) (Nat.le_of_ble_eq_true rfl) ?_
          refine J_keep [true, true, true, true, true, true, true] rfl ?_
          exact j_M_chanceOf_164 E _ _ _ _ _ _ _ _ (j_M_chanceOf_110 E a0 a1 a2 a3 a4 h211 n)
      · refine J_goto (tgt := 205) zd_M_chanceOf_128 rfl ?_
        refine J_wid (k := 0) (n := 0) (Nat.le_of_ble_eq_true rfl) (Nat.le_of_ble_eq_true rfl) ?_
        refine J_keep [true, true, true, true, true, true, false] rfl ?_
        exact j_M_chanceOf_205 E _ _ _ _ _ _ _ (j_M_chanceOf_110 E a0 a1 a2 a3 a4 h211 n)
def k_M_chanceOf_214 (c242 : Int32 → Mem → Option (LV × Mem)) (a0 : Nat) (a1 : Int32) (a2 : Int32) (a3 : Int32) : Nat → Int32 → Mem → Option (LV × Mem)
  | 0, _, _ => none
  | n + 1, a5, μ => (if 1323 ≤ a5 then (c242 a3 μ) else gR 10 a0 32 μ (fun r24 => gR 10 a0 33 μ (fun r25 => aI r25 a5 μ (fun v26 => aS r24 a5 v26 μ (fun μ27 => (k_M_chanceOf_214 c242 a0 a1 a2 a3 n (a5 + 1) μ27))))))
set_option maxRecDepth 20000 in
theorem j_M_chanceOf_214 (E : EV) (a0 : Nat) (a1 : Int32) (a2 : Int32) (a3 : Int32) {c242 : Int32 → Mem → Option (LV × Mem)} (h242 : ∀ (b3 : Int32)  (μ : Mem), J E I_M_chanceOf (rmk 4 0 0) (QR E I_M_chanceOf (rmk 4 0 0)) 0 0 μ 242 [some (.inr a0), some (.inl a1), some (.inl a2), some (.inl b3), none, none, none] [] (c242 b3 μ)) : ∀ (n : Nat) (a5 : Int32) (μ : Mem), J E I_M_chanceOf (rmk 4 0 0) (QR E I_M_chanceOf (rmk 4 0 0)) 0 0 μ 214 [some (.inr a0), some (.inl a1), some (.inl a2), some (.inl a3), none, some (.inl a5), none] [] (k_M_chanceOf_214 c242 a0 a1 a2 a3 n a5 μ)
  | 0, _, _ => J_none
  | n + 1, a5, μ => by
    show J E I_M_chanceOf (rmk 4 0 0) (QR E I_M_chanceOf (rmk 4 0 0)) 0 0 μ 214 [some (.inr a0), some (.inl a1), some (.inl a2), some (.inl a3), none, some (.inl a5), none] [] ((if 1323 ≤ a5 then (c242 a3 μ) else gR 10 a0 32 μ (fun r24 => gR 10 a0 33 μ (fun r25 => aI r25 a5 μ (fun v26 => aS r24 a5 v26 μ (fun μ27 => (k_M_chanceOf_214 c242 a0 a1 a2 a3 n (a5 + 1) μ27)))))))
    refine J_iload zd_M_chanceOf_214 rfl ?_
    refine J_sipush (v := 1323) zd_M_chanceOf_216 (by decide) ?_
    refine J_icmp_ge (tgt := 242) zd_M_chanceOf_219 rfl ?_ ?_
    · refine J_wid (k := 0) (n := 0) (Nat.le_of_ble_eq_true rfl) (Nat.le_of_ble_eq_true rfl) ?_
      refine J_keep [true, true, true, true, false, false, false] rfl ?_
      exact h242 _ _
    · refine J_aload_n zd_M_chanceOf_222 rfl ?_
      refine J_gR zd_M_chanceOf_223 zf_M_92 rfl (fun r24 => ?_)
      refine J_iload zd_M_chanceOf_226 rfl ?_
      refine J_aload_n zd_M_chanceOf_228 rfl ?_
      refine J_gR zd_M_chanceOf_229 zf_M_95 rfl (fun r25 => ?_)
      refine J_iload zd_M_chanceOf_232 rfl ?_
      refine J_aI zd_M_chanceOf_234 (fun v26 => ?_)
      refine J_aS zd_M_chanceOf_235 (fun μ27 => ?_)
      refine J_iinc (v := _ + 1) (lv' := [some _, some _, some _, some _, none, some _, none]) zd_M_chanceOf_236 (Nat.le_of_ble_eq_true rfl) rfl (by rfl) rfl ?_
      refine J_goto (tgt := 214) zd_M_chanceOf_239 rfl ?_
      refine J_wid (k := 0) (n := 0) (Nat.le_of_ble_eq_true rfl) (Nat.le_of_ble_eq_true rfl) ?_
      refine J_keep [true, true, true, true, false, true, false] rfl ?_
      exact j_M_chanceOf_214 E a0 a1 a2 a3 h242 n _ _
def b_M_chanceOf_242 (c32 : Int32 → Mem → Option (LV × Mem)) (a0 : Nat) (a1 : Int32) (a2 : Int32) (a3 : Int32)  (μ : Mem) : Option (LV × Mem) := (c32 (a3 + 1) μ)
set_option maxRecDepth 20000 in
theorem j_M_chanceOf_242 (E : EV) (a0 : Nat) (a1 : Int32) (a2 : Int32) (a3 : Int32)  (μ : Mem) {c32 : Int32 → Mem → Option (LV × Mem)} (h32 : ∀ (b3 : Int32)  (μ : Mem), J E I_M_chanceOf (rmk 4 0 0) (QR E I_M_chanceOf (rmk 4 0 0)) 0 0 μ 32 [some (.inr a0), some (.inl a1), some (.inl a2), some (.inl b3), none, none, none] [] (c32 b3 μ)) : J E I_M_chanceOf (rmk 4 0 0) (QR E I_M_chanceOf (rmk 4 0 0)) 0 0 μ 242 [some (.inr a0), some (.inl a1), some (.inl a2), some (.inl a3), none, none, none] [] (b_M_chanceOf_242 c32 a0 a1 a2 a3 μ) := by
  unfold b_M_chanceOf_242
  refine J_iinc (v := _ + 1) (lv' := [some _, some _, some _, some _, none, none, none]) zd_M_chanceOf_242 (Nat.le_of_ble_eq_true rfl) rfl (by rfl) rfl ?_
  refine J_goto (tgt := 32) zd_M_chanceOf_245 rfl ?_
  refine J_wid (k := 0) (n := 0) (Nat.le_of_ble_eq_true rfl) (Nat.le_of_ble_eq_true rfl) ?_
  refine J_keep [true, true, true, true, false, false, false] rfl ?_
  exact h32 _ _
def b_M_chanceOf_211 (c32 : Int32 → Mem → Option (LV × Mem)) (a0 : Nat) (a1 : Int32) (a2 : Int32) (a3 : Int32)  (μ : Mem) : Option (LV × Mem) := (k_M_chanceOf_214 (fun b3 m_ => b_M_chanceOf_242 c32 a0 a1 a2 b3 m_) a0 a1 a2 a3 120000 0 μ)
set_option maxRecDepth 20000 in
theorem j_M_chanceOf_211 (E : EV) (a0 : Nat) (a1 : Int32) (a2 : Int32) (a3 : Int32)  (μ : Mem) {c32 : Int32 → Mem → Option (LV × Mem)} (h32 : ∀ (b3 : Int32)  (μ : Mem), J E I_M_chanceOf (rmk 4 0 0) (QR E I_M_chanceOf (rmk 4 0 0)) 0 0 μ 32 [some (.inr a0), some (.inl a1), some (.inl a2), some (.inl b3), none, none, none] [] (c32 b3 μ)) : J E I_M_chanceOf (rmk 4 0 0) (QR E I_M_chanceOf (rmk 4 0 0)) 0 0 μ 211 [some (.inr a0), some (.inl a1), some (.inl a2), some (.inl a3), none, none, none] [] (b_M_chanceOf_211 c32 a0 a1 a2 a3 μ) := by
  unfold b_M_chanceOf_211
  refine J_iconst (v := 0) zd_M_chanceOf_211 (by decide) ?_
  refine J_istore (lv' := [some _, some _, some _, some _, none, some _, none]) zd_M_chanceOf_212 (Nat.le_of_ble_eq_true rfl) rfl ?_
  refine J_wid (k := 0) (n := 0) (Nat.le_of_ble_eq_true rfl) (Nat.le_of_ble_eq_true rfl) ?_
  refine J_keep [true, true, true, true, false, true, false] rfl ?_
  exact j_M_chanceOf_214 E _ _ _ _ (fun b3 m_ => j_M_chanceOf_242 E a0 a1 a2 b3 m_ h32) _ _ _
def b_M_chanceOf_107 (c32 : Int32 → Mem → Option (LV × Mem)) (a0 : Nat) (a1 : Int32) (a2 : Int32) (a3 : Int32) (a4 : Int32)  (μ : Mem) : Option (LV × Mem) := (k_M_chanceOf_110 (fun b3 m_ => b_M_chanceOf_211 c32 a0 a1 a2 b3 m_) a0 a1 a2 a3 a4 120000 0 μ)
set_option maxRecDepth 20000 in
theorem j_M_chanceOf_107 (E : EV) (a0 : Nat) (a1 : Int32) (a2 : Int32) (a3 : Int32) (a4 : Int32)  (μ : Mem) {c32 : Int32 → Mem → Option (LV × Mem)} (h32 : ∀ (b3 : Int32)  (μ : Mem), J E I_M_chanceOf (rmk 4 0 0) (QR E I_M_chanceOf (rmk 4 0 0)) 0 0 μ 32 [some (.inr a0), some (.inl a1), some (.inl a2), some (.inl b3), none, none, none] [] (c32 b3 μ)) : J E I_M_chanceOf (rmk 4 0 0) (QR E I_M_chanceOf (rmk 4 0 0)) 0 0 μ 107 [some (.inr a0), some (.inl a1), some (.inl a2), some (.inl a3), some (.inl a4), none, none] [] (b_M_chanceOf_107 c32 a0 a1 a2 a3 a4 μ) := by
  unfold b_M_chanceOf_107
  refine J_iconst (v := 0) zd_M_chanceOf_107 (by decide) ?_
  refine J_istore (lv' := [some _, some _, some _, some _, some _, some _, none]) zd_M_chanceOf_108 (Nat.le_of_ble_eq_true rfl) rfl ?_
  refine J_wid (k := 0) (n := 0) (Nat.le_of_ble_eq_true rfl) (Nat.le_of_ble_eq_true rfl) ?_
  refine J_keep [true, true, true, true, true, true, false] rfl ?_
  exact j_M_chanceOf_110 E _ _ _ _ _ (fun b3 m_ => j_M_chanceOf_211 E a0 a1 a2 b3 m_ h32) _ _ _
def b_M_chanceOf_72 (c32 : Int32 → Mem → Option (LV × Mem)) (a0 : Nat) (a1 : Int32) (a2 : Int32) (a3 : Int32) (s0 : Int32) (μ : Mem) : Option (LV × Mem) := (if s0 = 0 then (b_M_chanceOf_242 c32 a0 a1 a2 a3 μ) else (k_M_chanceOf_85 (fun b3 b4 m_ => b_M_chanceOf_107 c32 a0 a1 a2 b3 b4 m_) a0 a1 a2 a3 s0 120000 0 μ))
set_option maxRecDepth 20000 in
theorem j_M_chanceOf_72 (E : EV) (a0 : Nat) (a1 : Int32) (a2 : Int32) (a3 : Int32) (s0 : Int32) (μ : Mem) {c32 : Int32 → Mem → Option (LV × Mem)} (h32 : ∀ (b3 : Int32)  (μ : Mem), J E I_M_chanceOf (rmk 4 0 0) (QR E I_M_chanceOf (rmk 4 0 0)) 0 0 μ 32 [some (.inr a0), some (.inl a1), some (.inl a2), some (.inl b3), none, none, none] [] (c32 b3 μ)) : J E I_M_chanceOf (rmk 4 0 0) (QR E I_M_chanceOf (rmk 4 0 0)) 0 0 μ 72 [some (.inr a0), some (.inl a1), some (.inl a2), some (.inl a3), none, none, none] [.inl s0] (b_M_chanceOf_72 c32 a0 a1 a2 a3 s0 μ) := by
  unfold b_M_chanceOf_72
  refine J_istore (lv' := [some _, some _, some _, some _, some _, none, none]) zd_M_chanceOf_72 (Nat.le_of_ble_eq_true rfl) rfl ?_
  refine J_iload zd_M_chanceOf_74 rfl ?_
  refine J_if_ne (tgt := 82) zd_M_chanceOf_76 rfl ?_ ?_
  · refine J_iconst (v := 0) zd_M_chanceOf_82 (by decide) ?_
    refine J_istore (lv' := [some _, some _, some _, some _, some _, some _, none]) zd_M_chanceOf_83 (Nat.le_of_ble_eq_true rfl) rfl ?_
    refine J_wid (k := 0) (n := 0) (Nat.le_of_ble_eq_true rfl) (Nat.le_of_ble_eq_true rfl) ?_
    refine J_keep [true, true, true, true, true, true, false] rfl ?_
    exact j_M_chanceOf_85 E _ _ _ _ _ (fun b3 b4 m_ => j_M_chanceOf_107 E a0 a1 a2 b3 b4 m_ h32) _ _ _
  · refine J_goto (tgt := 242) zd_M_chanceOf_79 rfl ?_
    refine J_wid (k := 0) (n := 0) (Nat.le_of_ble_eq_true rfl) (Nat.le_of_ble_eq_true rfl) ?_
    refine J_keep [true, true, true, true, false, false, false] rfl ?_
    exact j_M_chanceOf_242 E _ _ _ _ _ h32
def b_M_chanceOf_71 (c32 : Int32 → Mem → Option (LV × Mem)) (a0 : Nat) (a1 : Int32) (a2 : Int32) (a3 : Int32)  (μ : Mem) : Option (LV × Mem) := (b_M_chanceOf_72 c32 a0 a1 a2 a3 0 μ)
set_option maxRecDepth 20000 in
theorem j_M_chanceOf_71 (E : EV) (a0 : Nat) (a1 : Int32) (a2 : Int32) (a3 : Int32)  (μ : Mem) {c32 : Int32 → Mem → Option (LV × Mem)} (h32 : ∀ (b3 : Int32)  (μ : Mem), J E I_M_chanceOf (rmk 4 0 0) (QR E I_M_chanceOf (rmk 4 0 0)) 0 0 μ 32 [some (.inr a0), some (.inl a1), some (.inl a2), some (.inl b3), none, none, none] [] (c32 b3 μ)) : J E I_M_chanceOf (rmk 4 0 0) (QR E I_M_chanceOf (rmk 4 0 0)) 0 0 μ 71 [some (.inr a0), some (.inl a1), some (.inl a2), some (.inl a3), none, none, none] [] (b_M_chanceOf_71 c32 a0 a1 a2 a3 μ) := by
  unfold b_M_chanceOf_71
  refine J_iconst (v := 0) zd_M_chanceOf_71 (by decide) ?_
  refine J_wid (k := 0) (n := 0) (Nat.le_of_ble_eq_true rfl) (Nat.le_of_ble_eq_true rfl) ?_
  refine J_keep [true, true, true, true, false, false, false] rfl ?_
  exact j_M_chanceOf_72 E _ _ _ _ _ _ h32
def k_M_chanceOf_32 (c248 : Nat → Mem → Option (LV × Mem)) (a0 : Nat) (a1 : Int32) (a2 : Int32) : Nat → Int32 → Mem → Option (LV × Mem)
  | 0, _, _ => none
  | n + 1, a3, μ => gI 10 a0 1 μ (fun v28 => (if v28 ≤ a3 then (c248 a0 μ) else gR 10 a0 9 μ (fun r29 => aI r29 a3 μ (fun v30 => (if v30 = a1 then gR 10 a0 10 μ (fun r31 => aI r31 a3 μ (fun v32 => (if (v32 &&& 7) = 0 then (b_M_chanceOf_71 (k_M_chanceOf_32 c248 a0 a1 a2 n) a0 a1 a2 a3 μ) else cV 10 a0 μ (bI (f_M_part a0 a3 a2 μ) (fun v34 μ33 => (b_M_chanceOf_72 (k_M_chanceOf_32 c248 a0 a1 a2 n) a0 a1 a2 a3 v34 μ33)))))) else (b_M_chanceOf_71 (k_M_chanceOf_32 c248 a0 a1 a2 n) a0 a1 a2 a3 μ))))))
set_option maxRecDepth 20000 in
theorem j_M_chanceOf_32 (E : EV) (a0 : Nat) (a1 : Int32) (a2 : Int32) {c248 : Nat → Mem → Option (LV × Mem)} (h248 : ∀ (b0 : Nat)  (μ : Mem), J E I_M_chanceOf (rmk 4 0 0) (QR E I_M_chanceOf (rmk 4 0 0)) 0 0 μ 248 [some (.inr b0), none, none, none, none, none, none] [] (c248 b0 μ)) : ∀ (n : Nat) (a3 : Int32) (μ : Mem), J E I_M_chanceOf (rmk 4 0 0) (QR E I_M_chanceOf (rmk 4 0 0)) 0 0 μ 32 [some (.inr a0), some (.inl a1), some (.inl a2), some (.inl a3), none, none, none] [] (k_M_chanceOf_32 c248 a0 a1 a2 n a3 μ)
  | 0, _, _ => J_none
  | n + 1, a3, μ => by
    show J E I_M_chanceOf (rmk 4 0 0) (QR E I_M_chanceOf (rmk 4 0 0)) 0 0 μ 32 [some (.inr a0), some (.inl a1), some (.inl a2), some (.inl a3), none, none, none] [] (gI 10 a0 1 μ (fun v28 => (if v28 ≤ a3 then (c248 a0 μ) else gR 10 a0 9 μ (fun r29 => aI r29 a3 μ (fun v30 => (if v30 = a1 then gR 10 a0 10 μ (fun r31 => aI r31 a3 μ (fun v32 => (if (v32 &&& 7) = 0 then (b_M_chanceOf_71 (k_M_chanceOf_32 c248 a0 a1 a2 n) a0 a1 a2 a3 μ) else cV 10 a0 μ (bI (f_M_part a0 a3 a2 μ) (fun v34 μ33 => (b_M_chanceOf_72 (k_M_chanceOf_32 c248 a0 a1 a2 n) a0 a1 a2 a3 v34 μ33)))))) else (b_M_chanceOf_71 (k_M_chanceOf_32 c248 a0 a1 a2 n) a0 a1 a2 a3 μ)))))))
    refine J_iload_n zd_M_chanceOf_32 rfl ?_
    refine J_aload_n zd_M_chanceOf_33 rfl ?_
    refine J_gI zd_M_chanceOf_34 zf_M_110 rfl (fun v28 => ?_)
    refine J_icmp_ge (tgt := 248) zd_M_chanceOf_37 rfl ?_ ?_
    · refine J_wid (k := 0) (n := 0) (Nat.le_of_ble_eq_true rfl) (Nat.le_of_ble_eq_true rfl) ?_
      refine J_keep [true, false, false, false, false, false, false] rfl ?_
      exact h248 _ _
    · refine J_aload_n zd_M_chanceOf_40 rfl ?_
      refine J_gR zd_M_chanceOf_41 zf_M_23 rfl (fun r29 => ?_)
      refine J_iload_n zd_M_chanceOf_44 rfl ?_
      refine J_aI zd_M_chanceOf_45 (fun v30 => ?_)
      refine J_iload_n zd_M_chanceOf_46 rfl ?_
      refine J_icmp_ne (tgt := 71) zd_M_chanceOf_47 rfl ?_ ?_
      · refine J_wid (k := 0) (n := 0) (Nat.le_of_ble_eq_true rfl) (Nat.le_of_ble_eq_true rfl) ?_
        refine J_keep [true, true, true, true, false, false, false] rfl ?_
        exact j_M_chanceOf_71 E _ _ _ _ _ (j_M_chanceOf_32 E a0 a1 a2 h248 n)
      · refine J_aload_n zd_M_chanceOf_50 rfl ?_
        refine J_gR zd_M_chanceOf_51 zf_M_26 rfl (fun r31 => ?_)
        refine J_iload_n zd_M_chanceOf_54 rfl ?_
        refine J_aI zd_M_chanceOf_55 (fun v32 => ?_)
        refine J_bipush (v := 7) zd_M_chanceOf_56 (by decide) ?_
        refine J_iand zd_M_chanceOf_58 ?_
        refine J_if_eq (tgt := 71) zd_M_chanceOf_59 rfl ?_ ?_
        · refine J_wid (k := 0) (n := 0) (Nat.le_of_ble_eq_true rfl) (Nat.le_of_ble_eq_true rfl) ?_
          refine J_keep [true, true, true, true, false, false, false] rfl ?_
          exact j_M_chanceOf_71 E _ _ _ _ _ (j_M_chanceOf_32 E a0 a1 a2 h248 n)
        · refine J_aload_n zd_M_chanceOf_62 rfl ?_
          refine J_iload_n zd_M_chanceOf_63 rfl ?_
          refine J_iload_n zd_M_chanceOf_64 rfl ?_
          refine J_callVi (ci := 10) (as := [.inl _, .inl _]) zd_M_chanceOf_65 zm_M_part ⟨Nat.le_of_ble_eq_true rfl, Nat.le_of_ble_eq_true rfl⟩ zw_860 zw_862 zs_27 (by decide) rfl rfl (Nat.le_of_ble_eq_true rfl) ⟨Nat.le_of_ble_eq_true rfl, Nat.le_of_ble_eq_true rfl⟩ rfl rfl (c_M_part E _ _ _ _) (fun v34 μ33 => ?_)
          refine J_goto (tgt := 72) zd_M_chanceOf_68 rfl ?_
          refine J_wid (k := 0) (n := 0) (Nat.le_of_ble_eq_true rfl) (Nat.le_of_ble_eq_true rfl) ?_
          refine J_keep [true, true, true, true, false, false, false] rfl ?_
          exact j_M_chanceOf_72 E _ _ _ _ _ _ (j_M_chanceOf_32 E a0 a1 a2 h248 n)
def b_M_chanceOf_280 (c253 : Int32 → Int32 → Mem → Option (LV × Mem)) (a0 : Nat) (a3 : Int32) (a4 : Int32)  (μ : Mem) : Option (LV × Mem) := (c253 a3 (a4 + 1) μ)
set_option maxRecDepth 20000 in
theorem j_M_chanceOf_280 (E : EV) (a0 : Nat) (a3 : Int32) (a4 : Int32)  (μ : Mem) {c253 : Int32 → Int32 → Mem → Option (LV × Mem)} (h253 : ∀ (b3 : Int32) (b4 : Int32)  (μ : Mem), J E I_M_chanceOf (rmk 4 0 0) (QR E I_M_chanceOf (rmk 4 0 0)) 0 0 μ 253 [some (.inr a0), none, none, some (.inl b3), some (.inl b4), none, none] [] (c253 b3 b4 μ)) : J E I_M_chanceOf (rmk 4 0 0) (QR E I_M_chanceOf (rmk 4 0 0)) 0 0 μ 280 [some (.inr a0), none, none, some (.inl a3), some (.inl a4), none, none] [] (b_M_chanceOf_280 c253 a0 a3 a4 μ) := by
  unfold b_M_chanceOf_280
  refine J_iinc (v := _ + 1) (lv' := [some _, none, none, some _, some _, none, none]) zd_M_chanceOf_280 (Nat.le_of_ble_eq_true rfl) rfl (by rfl) rfl ?_
  refine J_goto (tgt := 253) zd_M_chanceOf_283 rfl ?_
  refine J_wid (k := 0) (n := 0) (Nat.le_of_ble_eq_true rfl) (Nat.le_of_ble_eq_true rfl) ?_
  refine J_keep [true, false, false, true, true, false, false] rfl ?_
  exact h253 _ _ _
def k_M_chanceOf_253  (a0 : Nat) : Nat → Int32 → Int32 → Mem → Option (LV × Mem)
  | 0, _, _, _ => none
  | n + 1, a3, a4, μ => (if 1323 ≤ a4 then (some (.inl a3, μ)) else cV 10 a0 μ (bI (f_M_stands a0 a4 μ) (fun v36 μ35 => (if v36 = 0 then (b_M_chanceOf_280 (k_M_chanceOf_253 a0 n) a0 a3 a4 μ35) else gR 10 a0 32 μ35 (fun r37 => aI r37 a4 μ35 (fun v38 => nm (a3 + v38) (fun v39 => (b_M_chanceOf_280 (k_M_chanceOf_253 a0 n) a0 v39 a4 μ35))))))))
set_option maxRecDepth 20000 in
theorem j_M_chanceOf_253 (E : EV) (a0 : Nat)  : ∀ (n : Nat) (a3 : Int32) (a4 : Int32) (μ : Mem), J E I_M_chanceOf (rmk 4 0 0) (QR E I_M_chanceOf (rmk 4 0 0)) 0 0 μ 253 [some (.inr a0), none, none, some (.inl a3), some (.inl a4), none, none] [] (k_M_chanceOf_253 a0 n a3 a4 μ)
  | 0, _, _, _ => J_none
  | n + 1, a3, a4, μ => by
    show J E I_M_chanceOf (rmk 4 0 0) (QR E I_M_chanceOf (rmk 4 0 0)) 0 0 μ 253 [some (.inr a0), none, none, some (.inl a3), some (.inl a4), none, none] [] ((if 1323 ≤ a4 then (some (.inl a3, μ)) else cV 10 a0 μ (bI (f_M_stands a0 a4 μ) (fun v36 μ35 => (if v36 = 0 then (b_M_chanceOf_280 (k_M_chanceOf_253 a0 n) a0 a3 a4 μ35) else gR 10 a0 32 μ35 (fun r37 => aI r37 a4 μ35 (fun v38 => nm (a3 + v38) (fun v39 => (b_M_chanceOf_280 (k_M_chanceOf_253 a0 n) a0 v39 a4 μ35)))))))))
    refine J_iload zd_M_chanceOf_253 rfl ?_
    refine J_sipush (v := 1323) zd_M_chanceOf_255 (by decide) ?_
    refine J_icmp_ge (tgt := 286) zd_M_chanceOf_258 rfl ?_ ?_
    · refine J_iload_n zd_M_chanceOf_286 rfl ?_
      exact J_iret zd_M_chanceOf_287 rfl (Nat.le_of_ble_eq_true rfl) (Nat.le_of_ble_eq_true rfl)
    · refine J_aload_n zd_M_chanceOf_261 rfl ?_
      refine J_iload zd_M_chanceOf_262 rfl ?_
      refine J_callVi (ci := 10) (as := [.inl _]) zd_M_chanceOf_264 zm_M_stands ⟨Nat.le_of_ble_eq_true rfl, Nat.le_of_ble_eq_true rfl⟩ zw_883 zw_885 zs_29 (by decide) rfl rfl (Nat.le_of_ble_eq_true rfl) ⟨Nat.le_of_ble_eq_true rfl, Nat.le_of_ble_eq_true rfl⟩ rfl rfl (c_M_stands E _ _ _) (fun v36 μ35 => ?_)
      refine J_if_eq (tgt := 280) zd_M_chanceOf_267 rfl ?_ ?_
      · refine J_wid (k := 0) (n := 0) (Nat.le_of_ble_eq_true rfl) (Nat.le_of_ble_eq_true rfl) ?_
        refine J_keep [true, false, false, true, true, false, false] rfl ?_
        exact j_M_chanceOf_280 E _ _ _ _ (j_M_chanceOf_253 E a0 n)
      · refine J_iload_n zd_M_chanceOf_270 rfl ?_
        refine J_aload_n zd_M_chanceOf_271 rfl ?_
        refine J_gR zd_M_chanceOf_272 zf_M_92 rfl (fun r37 => ?_)
        refine J_iload zd_M_chanceOf_275 rfl ?_
        refine J_aI zd_M_chanceOf_277 (fun v38 => ?_)
        refine J_iadd zd_M_chanceOf_278 ?_
        refine J_nm (fun v39 => ?_)
        refine J_istore_n (lv' := [some _, none, none, some _, some _, none, none]) zd_M_chanceOf_279 (Nat.le_of_ble_eq_true rfl) rfl ?_
        refine J_wid (k := 0) (n := 0) (Nat.le_of_ble_eq_true rfl) (Nat.le_of_ble_eq_true rfl) ?_
        refine J_keep [true, false, false, true, true, false, false] rfl ?_
        exact j_M_chanceOf_280 E _ _ _ _ (j_M_chanceOf_253 E a0 n)
def b_M_chanceOf_248  (a0 : Nat)  (μ : Mem) : Option (LV × Mem) := (k_M_chanceOf_253 a0 120000 0 0 μ)
set_option maxRecDepth 20000 in
theorem j_M_chanceOf_248 (E : EV) (a0 : Nat)  (μ : Mem)  : J E I_M_chanceOf (rmk 4 0 0) (QR E I_M_chanceOf (rmk 4 0 0)) 0 0 μ 248 [some (.inr a0), none, none, none, none, none, none] [] (b_M_chanceOf_248 a0 μ) := by
  unfold b_M_chanceOf_248
  refine J_iconst (v := 0) zd_M_chanceOf_248 (by decide) ?_
  refine J_istore_n (lv' := [some _, none, none, some _, none, none, none]) zd_M_chanceOf_249 (Nat.le_of_ble_eq_true rfl) rfl ?_
  refine J_iconst (v := 0) zd_M_chanceOf_250 (by decide) ?_
  refine J_istore (lv' := [some _, none, none, some _, some _, none, none]) zd_M_chanceOf_251 (Nat.le_of_ble_eq_true rfl) rfl ?_
  refine J_wid (k := 0) (n := 0) (Nat.le_of_ble_eq_true rfl) (Nat.le_of_ble_eq_true rfl) ?_
  refine J_keep [true, false, false, true, true, false, false] rfl ?_
  exact j_M_chanceOf_253 E _ _ _ _ _
def b_M_chanceOf_22  (a0 : Nat) (a1 : Int32) (a2 : Int32)  (μ : Mem) : Option (LV × Mem) := gR 10 a0 32 μ (fun r40 => aS r40 0 1048576 μ (fun μ41 => (k_M_chanceOf_32 (fun b0 m_ => b_M_chanceOf_248 b0 m_) a0 a1 a2 120000 0 μ41)))
set_option maxRecDepth 20000 in
theorem j_M_chanceOf_22 (E : EV) (a0 : Nat) (a1 : Int32) (a2 : Int32)  (μ : Mem)  : J E I_M_chanceOf (rmk 4 0 0) (QR E I_M_chanceOf (rmk 4 0 0)) 0 0 μ 22 [some (.inr a0), some (.inl a1), some (.inl a2), none, none, none, none] [] (b_M_chanceOf_22 a0 a1 a2 μ) := by
  unfold b_M_chanceOf_22
  refine J_aload_n zd_M_chanceOf_22 rfl ?_
  refine J_gR zd_M_chanceOf_23 zf_M_92 rfl (fun r40 => ?_)
  refine J_iconst (v := 0) zd_M_chanceOf_26 (by decide) ?_
  refine J_ldc zd_M_chanceOf_27 zw_876 ?_
  refine J_aS zd_M_chanceOf_29 (fun μ41 => ?_)
  refine J_iconst (v := 0) zd_M_chanceOf_30 (by decide) ?_
  refine J_istore_n (lv' := [some _, some _, some _, some _, none, none, none]) zd_M_chanceOf_31 (Nat.le_of_ble_eq_true rfl) rfl ?_
  refine J_wid (k := 0) (n := 0) (Nat.le_of_ble_eq_true rfl) (Nat.le_of_ble_eq_true rfl) ?_
  refine J_keep [true, true, true, true, false, false, false] rfl ?_
  exact j_M_chanceOf_32 E _ _ _ (fun b0 m_ => j_M_chanceOf_248 E b0 m_) _ _ _
def f_M_chanceOf (a0 : Nat) (a1 : Int32) (a2 : Int32) (μ : Mem) : Option (LV × Mem) := (k_M_chanceOf_2 (fun b0 b1 b2 m_ => b_M_chanceOf_22 b0 b1 b2 m_) a0 a1 a2 120000 0 μ)
set_option maxRecDepth 20000 in
theorem c_M_chanceOf (E : EV) (a0 : Nat) (a1 : Int32) (a2 : Int32) (μ : Mem) : Ct E I_M_chanceOf (rmk 4 0 0) [.inr a0, .inl a1, .inl a2] μ (f_M_chanceOf a0 a1 a2 μ) := by
  refine Ct.of (k := 4) (by decide +kernel) rfl ?_
  show J E I_M_chanceOf (rmk 4 0 0) (QR E I_M_chanceOf (rmk 4 0 0)) 0 0 μ 0 [some (.inr a0), some (.inl a1), some (.inl a2), none, none, none, none] [] (f_M_chanceOf a0 a1 a2 μ)
  unfold f_M_chanceOf
  refine J_iconst (v := 0) zd_M_chanceOf_0 (by decide) ?_
  refine J_istore_n (lv' := [some _, some _, some _, some _, none, none, none]) zd_M_chanceOf_1 (Nat.le_of_ble_eq_true rfl) rfl ?_
  refine J_wid (k := 0) (n := 0) (Nat.le_of_ble_eq_true rfl) (Nat.le_of_ble_eq_true rfl) ?_
  refine J_keep [true, true, true, true, false, false, false] rfl ?_
  exact j_M_chanceOf_2 E _ _ _ (fun b0 b1 b2 m_ => j_M_chanceOf_22 E b0 b1 b2 m_) _ _ _
def b_M_chance_23  (a0 : Nat)  (μ : Mem) : Option (LV × Mem) := cV 10 a0 μ (bI (f_M_no a0 (-1) μ) (fun v2 μ1 => (some (.inl v2, μ1))))
set_option maxRecDepth 20000 in
theorem j_M_chance_23 (E : EV) (a0 : Nat)  (μ : Mem)  : J E I_M_chance (rmk 5 0 0) (QR E I_M_chance (rmk 5 0 0)) 0 0 μ 23 [some (.inr a0), none, none] [] (b_M_chance_23 a0 μ) := by
  unfold b_M_chance_23
  refine J_aload_n zd_M_chance_23 rfl ?_
  refine J_iconst (v := (-1)) zd_M_chance_24 (by decide) ?_
  refine J_callVi (ci := 10) (as := [.inl _]) zd_M_chance_25 zm_M_no ⟨Nat.le_of_ble_eq_true rfl, Nat.le_of_ble_eq_true rfl⟩ zw_821 zw_823 zs_22 (by decide) rfl rfl (Nat.le_of_ble_eq_true rfl) ⟨Nat.le_of_ble_eq_true rfl, Nat.le_of_ble_eq_true rfl⟩ rfl rfl (c_M_no E _ _ _) (fun v2 μ1 => ?_)
  exact J_iret zd_M_chance_28 rfl (Nat.le_of_ble_eq_true rfl) (Nat.le_of_ble_eq_true rfl)
def f_M_chance (a0 : Nat) (a1 : Int32) (a2 : Int32) (μ : Mem) : Option (LV × Mem) := bI (f_M_isStation a1 μ) (fun v4 μ3 => (if v4 = 0 then (b_M_chance_23 a0 μ3) else bI (f_M_isBand a2 μ3) (fun v6 μ5 => (if v6 = 0 then (b_M_chance_23 a0 μ5) else cV 10 a0 μ5 (bI (f_M_chanceOf a0 a1 a2 μ5) (fun v8 μ7 => (some (.inl v8, μ7))))))))
set_option maxRecDepth 20000 in
theorem c_M_chance (E : EV) (a0 : Nat) (a1 : Int32) (a2 : Int32) (μ : Mem) : Ct E I_M_chance (rmk 5 0 0) [.inr a0, .inl a1, .inl a2] μ (f_M_chance a0 a1 a2 μ) := by
  refine Ct.of (k := 0) (by decide +kernel) rfl ?_
  show J E I_M_chance (rmk 5 0 0) (QR E I_M_chance (rmk 5 0 0)) 0 0 μ 0 [some (.inr a0), some (.inl a1), some (.inl a2)] [] (f_M_chance a0 a1 a2 μ)
  unfold f_M_chance
  refine J_iload_n zd_M_chance_0 rfl ?_
  refine J_callSi (as := [.inl _]) zd_M_chance_1 zm_M_isStation ⟨Nat.le_of_ble_eq_true rfl, Nat.le_of_ble_eq_true rfl⟩ zw_818 zw_819 rfl (Nat.le_of_ble_eq_true rfl) ⟨Nat.le_of_ble_eq_true rfl, Nat.le_of_ble_eq_true rfl⟩ rfl rfl (c_M_isStation E _ _) (fun v4 μ3 => ?_)
  refine J_if_eq (tgt := 23) zd_M_chance_4 rfl ?_ ?_
  · refine J_wid (k := 0) (n := 0) (Nat.le_of_ble_eq_true rfl) (Nat.le_of_ble_eq_true rfl) ?_
    refine J_keep [true, false, false] rfl ?_
    exact j_M_chance_23 E _ _
  · refine J_iload_n zd_M_chance_7 rfl ?_
    refine J_callSi (as := [.inl _]) zd_M_chance_8 zm_M_isBand ⟨Nat.le_of_ble_eq_true rfl, Nat.le_of_ble_eq_true rfl⟩ zw_857 zw_858 rfl (Nat.le_of_ble_eq_true rfl) ⟨Nat.le_of_ble_eq_true rfl, Nat.le_of_ble_eq_true rfl⟩ rfl rfl (c_M_isBand E _ _) (fun v6 μ5 => ?_)
    refine J_if_eq (tgt := 23) zd_M_chance_11 rfl ?_ ?_
    · refine J_wid (k := 0) (n := 0) (Nat.le_of_ble_eq_true rfl) (Nat.le_of_ble_eq_true rfl) ?_
      refine J_keep [true, false, false] rfl ?_
      exact j_M_chance_23 E _ _
    · refine J_aload_n zd_M_chance_14 rfl ?_
      refine J_iload_n zd_M_chance_15 rfl ?_
      refine J_iload_n zd_M_chance_16 rfl ?_
      refine J_callVi (ci := 10) (as := [.inl _, .inl _]) zd_M_chance_17 zm_M_chanceOf ⟨Nat.le_of_ble_eq_true rfl, Nat.le_of_ble_eq_true rfl⟩ zw_872 zw_874 zs_28 (by decide) rfl rfl (Nat.le_of_ble_eq_true rfl) ⟨Nat.le_of_ble_eq_true rfl, Nat.le_of_ble_eq_true rfl⟩ rfl rfl (c_M_chanceOf E _ _ _ _) (fun v8 μ7 => ?_)
      refine J_goto (tgt := 28) zd_M_chance_20 rfl ?_
      exact J_iret zd_M_chance_28 rfl (Nat.le_of_ble_eq_true rfl) (Nat.le_of_ble_eq_true rfl)
def b_M_weak_69 (c42 : Int32 → Int32 → Mem → Option (LV × Mem)) (a0 : Nat) (a1 : Int32) (a2 : Int32) (a3 : Int32) (a4 : Int32)  (μ : Mem) : Option (LV × Mem) := (c42 a3 (a4 + 1) μ)
set_option maxRecDepth 20000 in
theorem j_M_weak_69 (E : EV) (a0 : Nat) (a1 : Int32) (a2 : Int32) (a3 : Int32) (a4 : Int32)  (μ : Mem) {c42 : Int32 → Int32 → Mem → Option (LV × Mem)} (h42 : ∀ (b3 : Int32) (b4 : Int32)  (μ : Mem), J E I_M_weak (rmk 5 0 0) (QR E I_M_weak (rmk 5 0 0)) 0 0 μ 42 [some (.inr a0), some (.inl a1), some (.inl a2), some (.inl b3), some (.inl b4)] [] (c42 b3 b4 μ)) : J E I_M_weak (rmk 5 0 0) (QR E I_M_weak (rmk 5 0 0)) 0 0 μ 69 [some (.inr a0), some (.inl a1), some (.inl a2), some (.inl a3), some (.inl a4)] [] (b_M_weak_69 c42 a0 a1 a2 a3 a4 μ) := by
  unfold b_M_weak_69
  refine J_iinc (v := _ + 1) (lv' := [some _, some _, some _, some _, some _]) zd_M_weak_69 (Nat.le_of_ble_eq_true rfl) rfl (by rfl) rfl ?_
  refine J_goto (tgt := 42) zd_M_weak_72 rfl ?_
  refine J_wid (k := 0) (n := 0) (Nat.le_of_ble_eq_true rfl) (Nat.le_of_ble_eq_true rfl) ?_
  refine J_keep [true, true, true, true, true] rfl ?_
  exact h42 _ _ _
def k_M_weak_42  (a0 : Nat) (a1 : Int32) (a2 : Int32) : Nat → Int32 → Int32 → Mem → Option (LV × Mem)
  | 0, _, _, _ => none
  | n + 1, a3, a4, μ => (if 8 ≤ a4 then (some (.inl a3, μ)) else cV 10 a0 μ (bI (f_M_chanceOf a0 a1 a4 μ) (fun v2 μ1 => (if ((1048576 * a2) / 100) ≤ v2 then (b_M_weak_69 (k_M_weak_42 a0 a1 a2 n) a0 a1 a2 a3 a4 μ1) else (b_M_weak_69 (k_M_weak_42 a0 a1 a2 n) a0 a1 a2 (a3 + 1) a4 μ1)))))
set_option maxRecDepth 20000 in
theorem j_M_weak_42 (E : EV) (a0 : Nat) (a1 : Int32) (a2 : Int32)  : ∀ (n : Nat) (a3 : Int32) (a4 : Int32) (μ : Mem), J E I_M_weak (rmk 5 0 0) (QR E I_M_weak (rmk 5 0 0)) 0 0 μ 42 [some (.inr a0), some (.inl a1), some (.inl a2), some (.inl a3), some (.inl a4)] [] (k_M_weak_42 a0 a1 a2 n a3 a4 μ)
  | 0, _, _, _ => J_none
  | n + 1, a3, a4, μ => by
    show J E I_M_weak (rmk 5 0 0) (QR E I_M_weak (rmk 5 0 0)) 0 0 μ 42 [some (.inr a0), some (.inl a1), some (.inl a2), some (.inl a3), some (.inl a4)] [] ((if 8 ≤ a4 then (some (.inl a3, μ)) else cV 10 a0 μ (bI (f_M_chanceOf a0 a1 a4 μ) (fun v2 μ1 => (if ((1048576 * a2) / 100) ≤ v2 then (b_M_weak_69 (k_M_weak_42 a0 a1 a2 n) a0 a1 a2 a3 a4 μ1) else (b_M_weak_69 (k_M_weak_42 a0 a1 a2 n) a0 a1 a2 (a3 + 1) a4 μ1))))))
    refine J_iload zd_M_weak_42 rfl ?_
    refine J_bipush (v := 8) zd_M_weak_44 (by decide) ?_
    refine J_icmp_ge (tgt := 75) zd_M_weak_46 rfl ?_ ?_
    · refine J_iload_n zd_M_weak_75 rfl ?_
      exact J_iret zd_M_weak_76 rfl (Nat.le_of_ble_eq_true rfl) (Nat.le_of_ble_eq_true rfl)
    · refine J_aload_n zd_M_weak_49 rfl ?_
      refine J_iload_n zd_M_weak_50 rfl ?_
      refine J_iload zd_M_weak_51 rfl ?_
      refine J_callVi (ci := 10) (as := [.inl _, .inl _]) zd_M_weak_53 zm_M_chanceOf ⟨Nat.le_of_ble_eq_true rfl, Nat.le_of_ble_eq_true rfl⟩ zw_872 zw_874 zs_28 (by decide) rfl rfl (Nat.le_of_ble_eq_true rfl) ⟨Nat.le_of_ble_eq_true rfl, Nat.le_of_ble_eq_true rfl⟩ rfl rfl (c_M_chanceOf E _ _ _ _) (fun v2 μ1 => ?_)
      refine J_ldc zd_M_weak_56 zw_876 ?_
      refine J_iload_n zd_M_weak_58 rfl ?_
      refine J_imul zd_M_weak_59 ?_
      refine J_bipush (v := 100) zd_M_weak_60 (by decide) ?_
      refine J_idivL zd_M_weak_62 (by decide) ?_
      refine J_icmp_ge (tgt := 69) zd_M_weak_63 rfl ?_ ?_
      · refine J_wid (k := 0) (n := 0) (Nat.le_of_ble_eq_true rfl) (Nat.le_of_ble_eq_true rfl) ?_
        refine J_keep [true, true, true, true, true] rfl ?_
        exact j_M_weak_69 E _ _ _ _ _ _ (j_M_weak_42 E a0 a1 a2 n)
      · refine J_iinc (v := _ + 1) (lv' := [some _, some _, some _, some _, some _]) zd_M_weak_66 (Nat.le_of_ble_eq_true rfl) rfl (by rfl) rfl ?_
        refine J_wid (k := 0) (n := 0) (Nat.le_of_ble_eq_true rfl) (Nat.le_of_ble_eq_true rfl) ?_
        refine J_keep [true, true, true, true, true] rfl ?_
        exact j_M_weak_69 E _ _ _ _ _ _ (j_M_weak_42 E a0 a1 a2 n)
def f_M_weak (a0 : Nat) (a1 : Int32) (a2 : Int32) (μ : Mem) : Option (LV × Mem) := bI (f_M_isStation a1 μ) (fun v4 μ3 => (if v4 = 0 then cV 10 a0 μ3 (bI (f_M_no a0 (-1) μ3) (fun v10 μ9 => (some (.inl v10, μ9)))) else (if 0 ≤ a2 then (if a2 ≤ 100 then (k_M_weak_42 a0 a1 a2 120000 0 0 μ3) else cV 10 a0 μ3 (bI (f_M_no a0 (-6) μ3) (fun v6 μ5 => (some (.inl v6, μ5))))) else cV 10 a0 μ3 (bI (f_M_no a0 (-4) μ3) (fun v8 μ7 => (some (.inl v8, μ7)))))))
set_option maxRecDepth 20000 in
theorem c_M_weak (E : EV) (a0 : Nat) (a1 : Int32) (a2 : Int32) (μ : Mem) : Ct E I_M_weak (rmk 5 0 0) [.inr a0, .inl a1, .inl a2] μ (f_M_weak a0 a1 a2 μ) := by
  refine Ct.of (k := 2) (by decide +kernel) rfl ?_
  show J E I_M_weak (rmk 5 0 0) (QR E I_M_weak (rmk 5 0 0)) 0 0 μ 0 [some (.inr a0), some (.inl a1), some (.inl a2), none, none] [] (f_M_weak a0 a1 a2 μ)
  unfold f_M_weak
  refine J_iload_n zd_M_weak_0 rfl ?_
  refine J_callSi (as := [.inl _]) zd_M_weak_1 zm_M_isStation ⟨Nat.le_of_ble_eq_true rfl, Nat.le_of_ble_eq_true rfl⟩ zw_818 zw_819 rfl (Nat.le_of_ble_eq_true rfl) ⟨Nat.le_of_ble_eq_true rfl, Nat.le_of_ble_eq_true rfl⟩ rfl rfl (c_M_isStation E _ _) (fun v4 μ3 => ?_)
  refine J_if_ne (tgt := 13) zd_M_weak_4 rfl ?_ ?_
  · refine J_iload_n zd_M_weak_13 rfl ?_
    refine J_if_ge (tgt := 24) zd_M_weak_14 rfl ?_ ?_
    · refine J_iload_n zd_M_weak_24 rfl ?_
      refine J_bipush (v := 100) zd_M_weak_25 (by decide) ?_
      refine J_icmp_le (tgt := 37) zd_M_weak_27 rfl ?_ ?_
      · refine J_iconst (v := 0) zd_M_weak_37 (by decide) ?_
        refine J_istore_n (lv' := [some _, some _, some _, some _, none]) zd_M_weak_38 (Nat.le_of_ble_eq_true rfl) rfl ?_
        refine J_iconst (v := 0) zd_M_weak_39 (by decide) ?_
        refine J_istore (lv' := [some _, some _, some _, some _, some _]) zd_M_weak_40 (Nat.le_of_ble_eq_true rfl) rfl ?_
        refine J_wid (k := 0) (n := 0) (Nat.le_of_ble_eq_true rfl) (Nat.le_of_ble_eq_true rfl) ?_
        refine J_keep [true, true, true, true, true] rfl ?_
        exact j_M_weak_42 E _ _ _ _ _ _ _
      · refine J_aload_n zd_M_weak_30 rfl ?_
        refine J_bipush (v := (-6)) zd_M_weak_31 (by decide) ?_
        refine J_callVi (ci := 10) (as := [.inl _]) zd_M_weak_33 zm_M_no ⟨Nat.le_of_ble_eq_true rfl, Nat.le_of_ble_eq_true rfl⟩ zw_821 zw_823 zs_22 (by decide) rfl rfl (Nat.le_of_ble_eq_true rfl) ⟨Nat.le_of_ble_eq_true rfl, Nat.le_of_ble_eq_true rfl⟩ rfl rfl (c_M_no E _ _ _) (fun v6 μ5 => ?_)
        exact J_iret zd_M_weak_36 rfl (Nat.le_of_ble_eq_true rfl) (Nat.le_of_ble_eq_true rfl)
    · refine J_aload_n zd_M_weak_17 rfl ?_
      refine J_bipush (v := (-4)) zd_M_weak_18 (by decide) ?_
      refine J_callVi (ci := 10) (as := [.inl _]) zd_M_weak_20 zm_M_no ⟨Nat.le_of_ble_eq_true rfl, Nat.le_of_ble_eq_true rfl⟩ zw_821 zw_823 zs_22 (by decide) rfl rfl (Nat.le_of_ble_eq_true rfl) ⟨Nat.le_of_ble_eq_true rfl, Nat.le_of_ble_eq_true rfl⟩ rfl rfl (c_M_no E _ _ _) (fun v8 μ7 => ?_)
      exact J_iret zd_M_weak_23 rfl (Nat.le_of_ble_eq_true rfl) (Nat.le_of_ble_eq_true rfl)
  · refine J_aload_n zd_M_weak_7 rfl ?_
    refine J_iconst (v := (-1)) zd_M_weak_8 (by decide) ?_
    refine J_callVi (ci := 10) (as := [.inl _]) zd_M_weak_9 zm_M_no ⟨Nat.le_of_ble_eq_true rfl, Nat.le_of_ble_eq_true rfl⟩ zw_821 zw_823 zs_22 (by decide) rfl rfl (Nat.le_of_ble_eq_true rfl) ⟨Nat.le_of_ble_eq_true rfl, Nat.le_of_ble_eq_true rfl⟩ rfl rfl (c_M_no E _ _ _) (fun v10 μ9 => ?_)
    exact J_iret zd_M_weak_12 rfl (Nat.le_of_ble_eq_true rfl) (Nat.le_of_ble_eq_true rfl)
def b_M_tide_10  (a0 : Nat)  (μ : Mem) : Option (LV × Mem) := cV 10 a0 μ (bI (f_M_no a0 (-1) μ) (fun v2 μ1 => (some (.inl v2, μ1))))
set_option maxRecDepth 20000 in
theorem j_M_tide_10 (E : EV) (a0 : Nat)  (μ : Mem)  : J E I_M_tide (rmk 2 0 0) (QR E I_M_tide (rmk 2 0 0)) 0 0 μ 10 [some (.inr a0), none, none] [] (b_M_tide_10 a0 μ) := by
  unfold b_M_tide_10
  refine J_aload_n zd_M_tide_10 rfl ?_
  refine J_iconst (v := (-1)) zd_M_tide_11 (by decide) ?_
  refine J_callVi (ci := 10) (as := [.inl _]) zd_M_tide_12 zm_M_no ⟨Nat.le_of_ble_eq_true rfl, Nat.le_of_ble_eq_true rfl⟩ zw_821 zw_823 zs_22 (by decide) rfl rfl (Nat.le_of_ble_eq_true rfl) ⟨Nat.le_of_ble_eq_true rfl, Nat.le_of_ble_eq_true rfl⟩ rfl rfl (c_M_no E _ _ _) (fun v2 μ1 => ?_)
  exact J_iret zd_M_tide_15 rfl (Nat.le_of_ble_eq_true rfl) (Nat.le_of_ble_eq_true rfl)
def f_M_tide (a0 : Nat) (a1 : Int32) (a2 : Int32) (μ : Mem) : Option (LV × Mem) := (if a1 < 0 then (b_M_tide_10 a0 μ) else (if a1 ≤ 24 then (if (-1) ≤ a2 then (if a2 ≤ 12 then gR 10 a0 15 μ (fun r3 => aS r3 a1 a2 μ (fun μ4 => (some (.inl 1, μ4)))) else cV 10 a0 μ (bI (f_M_no a0 (-6) μ) (fun v6 μ5 => (some (.inl v6, μ5))))) else cV 10 a0 μ (bI (f_M_no a0 (-4) μ) (fun v8 μ7 => (some (.inl v8, μ7))))) else (b_M_tide_10 a0 μ)))
set_option maxRecDepth 20000 in
theorem c_M_tide (E : EV) (a0 : Nat) (a1 : Int32) (a2 : Int32) (μ : Mem) : Ct E I_M_tide (rmk 2 0 0) [.inr a0, .inl a1, .inl a2] μ (f_M_tide a0 a1 a2 μ) := by
  refine Ct.of (k := 0) (by decide +kernel) rfl ?_
  show J E I_M_tide (rmk 2 0 0) (QR E I_M_tide (rmk 2 0 0)) 0 0 μ 0 [some (.inr a0), some (.inl a1), some (.inl a2)] [] (f_M_tide a0 a1 a2 μ)
  unfold f_M_tide
  refine J_iload_n zd_M_tide_0 rfl ?_
  refine J_if_lt (tgt := 10) zd_M_tide_1 rfl ?_ ?_
  · refine J_wid (k := 0) (n := 0) (Nat.le_of_ble_eq_true rfl) (Nat.le_of_ble_eq_true rfl) ?_
    refine J_keep [true, false, false] rfl ?_
    exact j_M_tide_10 E _ _
  · refine J_iload_n zd_M_tide_4 rfl ?_
    refine J_bipush (v := 24) zd_M_tide_5 (by decide) ?_
    refine J_icmp_le (tgt := 16) zd_M_tide_7 rfl ?_ ?_
    · refine J_iload_n zd_M_tide_16 rfl ?_
      refine J_iconst (v := (-1)) zd_M_tide_17 (by decide) ?_
      refine J_icmp_ge (tgt := 28) zd_M_tide_18 rfl ?_ ?_
      · refine J_iload_n zd_M_tide_28 rfl ?_
        refine J_bipush (v := 12) zd_M_tide_29 (by decide) ?_
        refine J_icmp_le (tgt := 41) zd_M_tide_31 rfl ?_ ?_
        · refine J_aload_n zd_M_tide_41 rfl ?_
          refine J_gR zd_M_tide_42 zf_M_41 rfl (fun r3 => ?_)
          refine J_iload_n zd_M_tide_45 rfl ?_
          refine J_iload_n zd_M_tide_46 rfl ?_
          refine J_aS zd_M_tide_47 (fun μ4 => ?_)
          refine J_iconst (v := 1) zd_M_tide_48 (by decide) ?_
          exact J_iret zd_M_tide_49 rfl (Nat.le_of_ble_eq_true rfl) (Nat.le_of_ble_eq_true rfl)
        · refine J_aload_n zd_M_tide_34 rfl ?_
          refine J_bipush (v := (-6)) zd_M_tide_35 (by decide) ?_
          refine J_callVi (ci := 10) (as := [.inl _]) zd_M_tide_37 zm_M_no ⟨Nat.le_of_ble_eq_true rfl, Nat.le_of_ble_eq_true rfl⟩ zw_821 zw_823 zs_22 (by decide) rfl rfl (Nat.le_of_ble_eq_true rfl) ⟨Nat.le_of_ble_eq_true rfl, Nat.le_of_ble_eq_true rfl⟩ rfl rfl (c_M_no E _ _ _) (fun v6 μ5 => ?_)
          exact J_iret zd_M_tide_40 rfl (Nat.le_of_ble_eq_true rfl) (Nat.le_of_ble_eq_true rfl)
      · refine J_aload_n zd_M_tide_21 rfl ?_
        refine J_bipush (v := (-4)) zd_M_tide_22 (by decide) ?_
        refine J_callVi (ci := 10) (as := [.inl _]) zd_M_tide_24 zm_M_no ⟨Nat.le_of_ble_eq_true rfl, Nat.le_of_ble_eq_true rfl⟩ zw_821 zw_823 zs_22 (by decide) rfl rfl (Nat.le_of_ble_eq_true rfl) ⟨Nat.le_of_ble_eq_true rfl, Nat.le_of_ble_eq_true rfl⟩ rfl rfl (c_M_no E _ _ _) (fun v8 μ7 => ?_)
        exact J_iret zd_M_tide_27 rfl (Nat.le_of_ble_eq_true rfl) (Nat.le_of_ble_eq_true rfl)
    · refine J_wid (k := 0) (n := 0) (Nat.le_of_ble_eq_true rfl) (Nat.le_of_ble_eq_true rfl) ?_
      refine J_keep [true, false, false] rfl ?_
      exact j_M_tide_10 E _ _
def b_M_highOf_61 (c21 : Int32 → Int32 → Mem → Option (LV × Mem)) (a0 : Nat) (a3 : Int32) (a4 : Int32)  (μ : Mem) : Option (LV × Mem) := (c21 a3 (a4 + 1) μ)
set_option maxRecDepth 20000 in
theorem j_M_highOf_61 (E : EV) (a0 : Nat) (a3 : Int32) (a4 : Int32)  (μ : Mem) {c21 : Int32 → Int32 → Mem → Option (LV × Mem)} (h21 : ∀ (b3 : Int32) (b4 : Int32)  (μ : Mem), J E I_M_highOf (rmk 1 0 0) (QR E I_M_highOf (rmk 1 0 0)) 0 0 μ 21 [some (.inr a0), none, none, some (.inl b3), some (.inl b4)] [] (c21 b3 b4 μ)) : J E I_M_highOf (rmk 1 0 0) (QR E I_M_highOf (rmk 1 0 0)) 0 0 μ 61 [some (.inr a0), none, none, some (.inl a3), some (.inl a4)] [] (b_M_highOf_61 c21 a0 a3 a4 μ) := by
  unfold b_M_highOf_61
  refine J_iinc (v := _ + 1) (lv' := [some _, none, none, some _, some _]) zd_M_highOf_61 (Nat.le_of_ble_eq_true rfl) rfl (by rfl) rfl ?_
  refine J_goto (tgt := 21) zd_M_highOf_64 rfl ?_
  refine J_wid (k := 0) (n := 0) (Nat.le_of_ble_eq_true rfl) (Nat.le_of_ble_eq_true rfl) ?_
  refine J_keep [true, false, false, true, true] rfl ?_
  exact h21 _ _ _
def b_M_highOf_53 (c21 : Int32 → Int32 → Mem → Option (LV × Mem)) (a0 : Nat) (a4 : Int32)  (μ : Mem) : Option (LV × Mem) := gR 10 a0 15 μ (fun r1 => aI r1 a4 μ (fun v2 => (b_M_highOf_61 c21 a0 v2 a4 μ)))
set_option maxRecDepth 20000 in
theorem j_M_highOf_53 (E : EV) (a0 : Nat) (a4 : Int32)  (μ : Mem) {c21 : Int32 → Int32 → Mem → Option (LV × Mem)} (h21 : ∀ (b3 : Int32) (b4 : Int32)  (μ : Mem), J E I_M_highOf (rmk 1 0 0) (QR E I_M_highOf (rmk 1 0 0)) 0 0 μ 21 [some (.inr a0), none, none, some (.inl b3), some (.inl b4)] [] (c21 b3 b4 μ)) : J E I_M_highOf (rmk 1 0 0) (QR E I_M_highOf (rmk 1 0 0)) 0 0 μ 53 [some (.inr a0), none, none, none, some (.inl a4)] [] (b_M_highOf_53 c21 a0 a4 μ) := by
  unfold b_M_highOf_53
  refine J_aload_n zd_M_highOf_53 rfl ?_
  refine J_gR zd_M_highOf_54 zf_M_41 rfl (fun r1 => ?_)
  refine J_iload zd_M_highOf_57 rfl ?_
  refine J_aI zd_M_highOf_59 (fun v2 => ?_)
  refine J_istore_n (lv' := [some _, none, none, some _, some _]) zd_M_highOf_60 (Nat.le_of_ble_eq_true rfl) rfl ?_
  refine J_wid (k := 0) (n := 0) (Nat.le_of_ble_eq_true rfl) (Nat.le_of_ble_eq_true rfl) ?_
  refine J_keep [true, false, false, true, true] rfl ?_
  exact j_M_highOf_61 E _ _ _ _ h21
def k_M_highOf_21 (c67 : Int32 → Mem → Option (LV × Mem)) (a0 : Nat) : Nat → Int32 → Int32 → Mem → Option (LV × Mem)
  | 0, _, _, _ => none
  | n + 1, a3, a4, μ => (if 25 ≤ a4 then (c67 a3 μ) else gR 10 a0 15 μ (fun r3 => aI r3 a4 μ (fun v4 => (if v4 < 0 then (b_M_highOf_61 (k_M_highOf_21 c67 a0 n) a0 a3 a4 μ) else (if a3 < 0 then (b_M_highOf_53 (k_M_highOf_21 c67 a0 n) a0 a4 μ) else gR 10 a0 15 μ (fun r5 => aI r5 a4 μ (fun v6 => (if a3 ≤ v6 then (b_M_highOf_61 (k_M_highOf_21 c67 a0 n) a0 a3 a4 μ) else (b_M_highOf_53 (k_M_highOf_21 c67 a0 n) a0 a4 μ)))))))))
set_option maxRecDepth 20000 in
theorem j_M_highOf_21 (E : EV) (a0 : Nat) {c67 : Int32 → Mem → Option (LV × Mem)} (h67 : ∀ (b3 : Int32)  (μ : Mem), J E I_M_highOf (rmk 1 0 0) (QR E I_M_highOf (rmk 1 0 0)) 0 0 μ 67 [none, none, none, some (.inl b3), none] [] (c67 b3 μ)) : ∀ (n : Nat) (a3 : Int32) (a4 : Int32) (μ : Mem), J E I_M_highOf (rmk 1 0 0) (QR E I_M_highOf (rmk 1 0 0)) 0 0 μ 21 [some (.inr a0), none, none, some (.inl a3), some (.inl a4)] [] (k_M_highOf_21 c67 a0 n a3 a4 μ)
  | 0, _, _, _ => J_none
  | n + 1, a3, a4, μ => by
    show J E I_M_highOf (rmk 1 0 0) (QR E I_M_highOf (rmk 1 0 0)) 0 0 μ 21 [some (.inr a0), none, none, some (.inl a3), some (.inl a4)] [] ((if 25 ≤ a4 then (c67 a3 μ) else gR 10 a0 15 μ (fun r3 => aI r3 a4 μ (fun v4 => (if v4 < 0 then (b_M_highOf_61 (k_M_highOf_21 c67 a0 n) a0 a3 a4 μ) else (if a3 < 0 then (b_M_highOf_53 (k_M_highOf_21 c67 a0 n) a0 a4 μ) else gR 10 a0 15 μ (fun r5 => aI r5 a4 μ (fun v6 => (if a3 ≤ v6 then (b_M_highOf_61 (k_M_highOf_21 c67 a0 n) a0 a3 a4 μ) else (b_M_highOf_53 (k_M_highOf_21 c67 a0 n) a0 a4 μ))))))))))
    refine J_iload zd_M_highOf_21 rfl ?_
    refine J_bipush (v := 25) zd_M_highOf_23 (by decide) ?_
    refine J_icmp_ge (tgt := 67) zd_M_highOf_25 rfl ?_ ?_
    · refine J_wid (k := 0) (n := 0) (Nat.le_of_ble_eq_true rfl) (Nat.le_of_ble_eq_true rfl) ?_
      refine J_keep [false, false, false, true, false] rfl ?_
      exact h67 _ _
    · refine J_aload_n zd_M_highOf_28 rfl ?_
      refine J_gR zd_M_highOf_29 zf_M_41 rfl (fun r3 => ?_)
      refine J_iload zd_M_highOf_32 rfl ?_
      refine J_aI zd_M_highOf_34 (fun v4 => ?_)
      refine J_if_lt (tgt := 61) zd_M_highOf_35 rfl ?_ ?_
      · refine J_wid (k := 0) (n := 0) (Nat.le_of_ble_eq_true rfl) (Nat.le_of_ble_eq_true rfl) ?_
        refine J_keep [true, false, false, true, true] rfl ?_
        exact j_M_highOf_61 E _ _ _ _ (j_M_highOf_21 E a0 h67 n)
      · refine J_iload_n zd_M_highOf_38 rfl ?_
        refine J_if_lt (tgt := 53) zd_M_highOf_39 rfl ?_ ?_
        · refine J_wid (k := 0) (n := 0) (Nat.le_of_ble_eq_true rfl) (Nat.le_of_ble_eq_true rfl) ?_
          refine J_keep [true, false, false, false, true] rfl ?_
          exact j_M_highOf_53 E _ _ _ (j_M_highOf_21 E a0 h67 n)
        · refine J_aload_n zd_M_highOf_42 rfl ?_
          refine J_gR zd_M_highOf_43 zf_M_41 rfl (fun r5 => ?_)
          refine J_iload zd_M_highOf_46 rfl ?_
          refine J_aI zd_M_highOf_48 (fun v6 => ?_)
          refine J_iload_n zd_M_highOf_49 rfl ?_
          refine J_icmp_ge (tgt := 61) zd_M_highOf_50 rfl ?_ ?_
          · refine J_wid (k := 0) (n := 0) (Nat.le_of_ble_eq_true rfl) (Nat.le_of_ble_eq_true rfl) ?_
            refine J_keep [true, false, false, true, true] rfl ?_
            exact j_M_highOf_61 E _ _ _ _ (j_M_highOf_21 E a0 h67 n)
          · refine J_wid (k := 0) (n := 0) (Nat.le_of_ble_eq_true rfl) (Nat.le_of_ble_eq_true rfl) ?_
            refine J_keep [true, false, false, false, true] rfl ?_
            exact j_M_highOf_53 E _ _ _ (j_M_highOf_21 E a0 h67 n)
def b_M_highOf_67  (a3 : Int32)  (μ : Mem) : Option (LV × Mem) := (if 0 ≤ a3 then (some (.inl a3, μ)) else (some (.inl 0, μ)))
set_option maxRecDepth 20000 in
theorem j_M_highOf_67 (E : EV) (a3 : Int32)  (μ : Mem)  : J E I_M_highOf (rmk 1 0 0) (QR E I_M_highOf (rmk 1 0 0)) 0 0 μ 67 [none, none, none, some (.inl a3), none] [] (b_M_highOf_67 a3 μ) := by
  unfold b_M_highOf_67
  refine J_iload_n zd_M_highOf_67 rfl ?_
  refine J_if_ge (tgt := 75) zd_M_highOf_68 rfl ?_ ?_
  · refine J_iload_n zd_M_highOf_75 rfl ?_
    exact J_iret zd_M_highOf_76 rfl (Nat.le_of_ble_eq_true rfl) (Nat.le_of_ble_eq_true rfl)
  · refine J_iconst (v := 0) zd_M_highOf_71 (by decide) ?_
    refine J_goto (tgt := 76) zd_M_highOf_72 rfl ?_
    exact J_iret zd_M_highOf_76 rfl (Nat.le_of_ble_eq_true rfl) (Nat.le_of_ble_eq_true rfl)
def f_M_highOf (a0 : Nat) (a1 : Int32) (μ : Mem) : Option (LV × Mem) := gR 10 a0 15 μ (fun r7 => aI r7 (irm a1 25) μ (fun v8 => (if v8 < 0 then (k_M_highOf_21 (fun b3 m_ => b_M_highOf_67 b3 m_) a0 120000 (-1) 0 μ) else (some (.inl v8, μ)))))
set_option maxRecDepth 20000 in
theorem c_M_highOf (E : EV) (a0 : Nat) (a1 : Int32) (μ : Mem) : Ct E I_M_highOf (rmk 1 0 0) [.inr a0, .inl a1] μ (f_M_highOf a0 a1 μ) := by
  refine Ct.of (k := 3) (by decide +kernel) rfl ?_
  show J E I_M_highOf (rmk 1 0 0) (QR E I_M_highOf (rmk 1 0 0)) 0 0 μ 0 [some (.inr a0), some (.inl a1), none, none, none] [] (f_M_highOf a0 a1 μ)
  unfold f_M_highOf
  refine J_aload_n zd_M_highOf_0 rfl ?_
  refine J_gR zd_M_highOf_1 zf_M_41 rfl (fun r7 => ?_)
  refine J_iload_n zd_M_highOf_4 rfl ?_
  refine J_bipush (v := 25) zd_M_highOf_5 (by decide) ?_
  refine J_iremL zd_M_highOf_7 (by decide) ?_
  refine J_aI zd_M_highOf_8 (fun v8 => ?_)
  refine J_istore_n (lv' := [some _, some _, some _, none, none]) zd_M_highOf_9 (Nat.le_of_ble_eq_true rfl) rfl ?_
  refine J_iload_n zd_M_highOf_10 rfl ?_
  refine J_if_lt (tgt := 16) zd_M_highOf_11 rfl ?_ ?_
  · refine J_iconst (v := (-1)) zd_M_highOf_16 (by decide) ?_
    refine J_istore_n (lv' := [some _, some _, some _, some _, none]) zd_M_highOf_17 (Nat.le_of_ble_eq_true rfl) rfl ?_
    refine J_iconst (v := 0) zd_M_highOf_18 (by decide) ?_
    refine J_istore (lv' := [some _, some _, some _, some _, some _]) zd_M_highOf_19 (Nat.le_of_ble_eq_true rfl) rfl ?_
    refine J_wid (k := 0) (n := 0) (Nat.le_of_ble_eq_true rfl) (Nat.le_of_ble_eq_true rfl) ?_
    refine J_keep [true, false, false, true, true] rfl ?_
    exact j_M_highOf_21 E _ (fun b3 m_ => j_M_highOf_67 E b3 m_) _ _ _ _
  · refine J_iload_n zd_M_highOf_14 rfl ?_
    exact J_iret zd_M_highOf_15 rfl (Nat.le_of_ble_eq_true rfl) (Nat.le_of_ble_eq_true rfl)
def f_M_isOpen (a0 : Nat) (a1 : Int32) (a2 : Int32) (μ : Mem) : Option (LV × Mem) := cV 10 a0 μ (bI (f_M_highOf a0 a2 μ) (fun v2 μ1 => gR 10 a0 8 μ1 (fun r3 => aI r3 a1 μ1 (fun v4 => (if v2 < v4 then (some (.inl 0, μ1)) else (some (.inl 1, μ1)))))))
set_option maxRecDepth 20000 in
theorem c_M_isOpen (E : EV) (a0 : Nat) (a1 : Int32) (a2 : Int32) (μ : Mem) : Ct E I_M_isOpen (rmk 2 0 0) [.inr a0, .inl a1, .inl a2] μ (f_M_isOpen a0 a1 a2 μ) := by
  refine Ct.of (k := 0) (by decide +kernel) rfl ?_
  show J E I_M_isOpen (rmk 2 0 0) (QR E I_M_isOpen (rmk 2 0 0)) 0 0 μ 0 [some (.inr a0), some (.inl a1), some (.inl a2)] [] (f_M_isOpen a0 a1 a2 μ)
  unfold f_M_isOpen
  refine J_aload_n zd_M_isOpen_0 rfl ?_
  refine J_iload_n zd_M_isOpen_1 rfl ?_
  refine J_callVi (ci := 10) (as := [.inl _]) zd_M_isOpen_2 zm_M_highOf ⟨Nat.le_of_ble_eq_true rfl, Nat.le_of_ble_eq_true rfl⟩ zw_903 zw_905 zs_31 (by decide) rfl rfl (Nat.le_of_ble_eq_true rfl) ⟨Nat.le_of_ble_eq_true rfl, Nat.le_of_ble_eq_true rfl⟩ rfl rfl (c_M_highOf E _ _ _) (fun v2 μ1 => ?_)
  refine J_aload_n zd_M_isOpen_5 rfl ?_
  refine J_gR zd_M_isOpen_6 zf_M_20 rfl (fun r3 => ?_)
  refine J_iload_n zd_M_isOpen_9 rfl ?_
  refine J_aI zd_M_isOpen_10 (fun v4 => ?_)
  refine J_icmp_lt (tgt := 18) zd_M_isOpen_11 rfl ?_ ?_
  · refine J_iconst (v := 0) zd_M_isOpen_18 (by decide) ?_
    exact J_zret zd_M_isOpen_19 rfl rfl (Nat.le_of_ble_eq_true rfl) (Nat.le_of_ble_eq_true rfl)
  · refine J_iconst (v := 1) zd_M_isOpen_14 (by decide) ?_
    refine J_goto (tgt := 19) zd_M_isOpen_15 rfl ?_
    exact J_zret zd_M_isOpen_19 rfl rfl (Nat.le_of_ble_eq_true rfl) (Nat.le_of_ble_eq_true rfl)
def f_M_slip (a0 : Nat) (a1 : Int32) (a2 : Int32) (μ : Mem) : Option (LV × Mem) := bI (f_M_isStation a1 μ) (fun v2 μ1 => (if v2 = 0 then cV 10 a0 μ1 (bI (f_M_no a0 (-1) μ1) (fun v10 μ9 => (some (.inl v10, μ9)))) else (if 0 ≤ a2 then (if a2 ≤ 4000 then cV 10 a0 μ1 (bI (f_M_isOpen a0 a1 a2 μ1) (fun v4 μ3 => (if v4 = 0 then (some (.inl 0, μ3)) else (some (.inl 1, μ3))))) else cV 10 a0 μ1 (bI (f_M_no a0 (-6) μ1) (fun v6 μ5 => (some (.inl v6, μ5))))) else cV 10 a0 μ1 (bI (f_M_no a0 (-4) μ1) (fun v8 μ7 => (some (.inl v8, μ7)))))))
set_option maxRecDepth 20000 in
theorem c_M_slip (E : EV) (a0 : Nat) (a1 : Int32) (a2 : Int32) (μ : Mem) : Ct E I_M_slip (rmk 3 0 0) [.inr a0, .inl a1, .inl a2] μ (f_M_slip a0 a1 a2 μ) := by
  refine Ct.of (k := 0) (by decide +kernel) rfl ?_
  show J E I_M_slip (rmk 3 0 0) (QR E I_M_slip (rmk 3 0 0)) 0 0 μ 0 [some (.inr a0), some (.inl a1), some (.inl a2)] [] (f_M_slip a0 a1 a2 μ)
  unfold f_M_slip
  refine J_iload_n zd_M_slip_0 rfl ?_
  refine J_callSi (as := [.inl _]) zd_M_slip_1 zm_M_isStation ⟨Nat.le_of_ble_eq_true rfl, Nat.le_of_ble_eq_true rfl⟩ zw_818 zw_819 rfl (Nat.le_of_ble_eq_true rfl) ⟨Nat.le_of_ble_eq_true rfl, Nat.le_of_ble_eq_true rfl⟩ rfl rfl (c_M_isStation E _ _) (fun v2 μ1 => ?_)
  refine J_if_ne (tgt := 13) zd_M_slip_4 rfl ?_ ?_
  · refine J_iload_n zd_M_slip_13 rfl ?_
    refine J_if_ge (tgt := 24) zd_M_slip_14 rfl ?_ ?_
    · refine J_iload_n zd_M_slip_24 rfl ?_
      refine J_sipush (v := 4000) zd_M_slip_25 (by decide) ?_
      refine J_icmp_le (tgt := 38) zd_M_slip_28 rfl ?_ ?_
      · refine J_aload_n zd_M_slip_38 rfl ?_
        refine J_iload_n zd_M_slip_39 rfl ?_
        refine J_iload_n zd_M_slip_40 rfl ?_
        refine J_callVi (ci := 10) (as := [.inl _, .inl _]) zd_M_slip_41 zm_M_isOpen ⟨Nat.le_of_ble_eq_true rfl, Nat.le_of_ble_eq_true rfl⟩ zw_899 zw_901 zs_30 (by decide) rfl rfl (Nat.le_of_ble_eq_true rfl) ⟨Nat.le_of_ble_eq_true rfl, Nat.le_of_ble_eq_true rfl⟩ rfl rfl (c_M_isOpen E _ _ _ _) (fun v4 μ3 => ?_)
        refine J_if_eq (tgt := 51) zd_M_slip_44 rfl ?_ ?_
        · refine J_iconst (v := 0) zd_M_slip_51 (by decide) ?_
          exact J_iret zd_M_slip_52 rfl (Nat.le_of_ble_eq_true rfl) (Nat.le_of_ble_eq_true rfl)
        · refine J_iconst (v := 1) zd_M_slip_47 (by decide) ?_
          refine J_goto (tgt := 52) zd_M_slip_48 rfl ?_
          exact J_iret zd_M_slip_52 rfl (Nat.le_of_ble_eq_true rfl) (Nat.le_of_ble_eq_true rfl)
      · refine J_aload_n zd_M_slip_31 rfl ?_
        refine J_bipush (v := (-6)) zd_M_slip_32 (by decide) ?_
        refine J_callVi (ci := 10) (as := [.inl _]) zd_M_slip_34 zm_M_no ⟨Nat.le_of_ble_eq_true rfl, Nat.le_of_ble_eq_true rfl⟩ zw_821 zw_823 zs_22 (by decide) rfl rfl (Nat.le_of_ble_eq_true rfl) ⟨Nat.le_of_ble_eq_true rfl, Nat.le_of_ble_eq_true rfl⟩ rfl rfl (c_M_no E _ _ _) (fun v6 μ5 => ?_)
        exact J_iret zd_M_slip_37 rfl (Nat.le_of_ble_eq_true rfl) (Nat.le_of_ble_eq_true rfl)
    · refine J_aload_n zd_M_slip_17 rfl ?_
      refine J_bipush (v := (-4)) zd_M_slip_18 (by decide) ?_
      refine J_callVi (ci := 10) (as := [.inl _]) zd_M_slip_20 zm_M_no ⟨Nat.le_of_ble_eq_true rfl, Nat.le_of_ble_eq_true rfl⟩ zw_821 zw_823 zs_22 (by decide) rfl rfl (Nat.le_of_ble_eq_true rfl) ⟨Nat.le_of_ble_eq_true rfl, Nat.le_of_ble_eq_true rfl⟩ rfl rfl (c_M_no E _ _ _) (fun v8 μ7 => ?_)
      exact J_iret zd_M_slip_23 rfl (Nat.le_of_ble_eq_true rfl) (Nat.le_of_ble_eq_true rfl)
  · refine J_aload_n zd_M_slip_7 rfl ?_
    refine J_iconst (v := (-1)) zd_M_slip_8 (by decide) ?_
    refine J_callVi (ci := 10) (as := [.inl _]) zd_M_slip_9 zm_M_no ⟨Nat.le_of_ble_eq_true rfl, Nat.le_of_ble_eq_true rfl⟩ zw_821 zw_823 zs_22 (by decide) rfl rfl (Nat.le_of_ble_eq_true rfl) ⟨Nat.le_of_ble_eq_true rfl, Nat.le_of_ble_eq_true rfl⟩ rfl rfl (c_M_no E _ _ _) (fun v10 μ9 => ?_)
    exact J_iret zd_M_slip_12 rfl (Nat.le_of_ble_eq_true rfl) (Nat.le_of_ble_eq_true rfl)
def f_M_minutes (a0 : Nat) (a1 : Int32) (μ : Mem) : Option (LV × Mem) := (if 1 ≤ a1 then gI 10 a0 0 μ (fun v1 => (if a1 ≤ (200000 - v1) then gI 10 a0 0 μ (fun v2 => pI 10 a0 0 (v2 + a1) μ (fun μ3 => gI 10 a0 0 μ3 (fun v4 => (some (.inl v4, μ3))))) else cV 10 a0 μ (bI (f_M_no a0 (-6) μ) (fun v6 μ5 => (some (.inl v6, μ5)))))) else cV 10 a0 μ (bI (f_M_no a0 (-4) μ) (fun v8 μ7 => (some (.inl v8, μ7)))))
set_option maxRecDepth 20000 in
theorem c_M_minutes (E : EV) (a0 : Nat) (a1 : Int32) (μ : Mem) : Ct E I_M_minutes (rmk 2 0 0) [.inr a0, .inl a1] μ (f_M_minutes a0 a1 μ) := by
  refine Ct.of (k := 0) (by decide +kernel) rfl ?_
  show J E I_M_minutes (rmk 2 0 0) (QR E I_M_minutes (rmk 2 0 0)) 0 0 μ 0 [some (.inr a0), some (.inl a1)] [] (f_M_minutes a0 a1 μ)
  unfold f_M_minutes
  refine J_iload_n zd_M_minutes_0 rfl ?_
  refine J_iconst (v := 1) zd_M_minutes_1 (by decide) ?_
  refine J_icmp_ge (tgt := 12) zd_M_minutes_2 rfl ?_ ?_
  · refine J_iload_n zd_M_minutes_12 rfl ?_
    refine J_ldc zd_M_minutes_13 zw_911 ?_
    refine J_aload_n zd_M_minutes_15 rfl ?_
    refine J_gI zd_M_minutes_16 zf_M_119 rfl (fun v1 => ?_)
    refine J_isub zd_M_minutes_19 ?_
    refine J_icmp_le (tgt := 30) zd_M_minutes_20 rfl ?_ ?_
    · refine J_aload_n zd_M_minutes_30 rfl ?_
      refine J_dup zd_M_minutes_31 ?_
      refine J_gI zd_M_minutes_32 zf_M_119 rfl (fun v2 => ?_)
      refine J_iload_n zd_M_minutes_35 rfl ?_
      refine J_iadd zd_M_minutes_36 ?_
      refine J_pI zd_M_minutes_37 zf_M_119 ⟨zt_M, zn_M, Or.inl rfl⟩ rfl rfl (fun μ3 => ?_)
      refine J_aload_n zd_M_minutes_40 rfl ?_
      refine J_gI zd_M_minutes_41 zf_M_119 rfl (fun v4 => ?_)
      exact J_iret zd_M_minutes_44 rfl (Nat.le_of_ble_eq_true rfl) (Nat.le_of_ble_eq_true rfl)
    · refine J_aload_n zd_M_minutes_23 rfl ?_
      refine J_bipush (v := (-6)) zd_M_minutes_24 (by decide) ?_
      refine J_callVi (ci := 10) (as := [.inl _]) zd_M_minutes_26 zm_M_no ⟨Nat.le_of_ble_eq_true rfl, Nat.le_of_ble_eq_true rfl⟩ zw_821 zw_823 zs_22 (by decide) rfl rfl (Nat.le_of_ble_eq_true rfl) ⟨Nat.le_of_ble_eq_true rfl, Nat.le_of_ble_eq_true rfl⟩ rfl rfl (c_M_no E _ _ _) (fun v6 μ5 => ?_)
      exact J_iret zd_M_minutes_29 rfl (Nat.le_of_ble_eq_true rfl) (Nat.le_of_ble_eq_true rfl)
  · refine J_aload_n zd_M_minutes_5 rfl ?_
    refine J_bipush (v := (-4)) zd_M_minutes_6 (by decide) ?_
    refine J_callVi (ci := 10) (as := [.inl _]) zd_M_minutes_8 zm_M_no ⟨Nat.le_of_ble_eq_true rfl, Nat.le_of_ble_eq_true rfl⟩ zw_821 zw_823 zs_22 (by decide) rfl rfl (Nat.le_of_ble_eq_true rfl) ⟨Nat.le_of_ble_eq_true rfl, Nat.le_of_ble_eq_true rfl⟩ rfl rfl (c_M_no E _ _ _) (fun v8 μ7 => ?_)
    exact J_iret zd_M_minutes_11 rfl (Nat.le_of_ble_eq_true rfl) (Nat.le_of_ble_eq_true rfl)
def b_M_boat_40  (a0 : Nat)  (μ : Mem) : Option (LV × Mem) := cV 10 a0 μ (bI (f_M_no a0 (-6) μ) (fun v2 μ1 => (some (.inl v2, μ1))))
set_option maxRecDepth 20000 in
theorem j_M_boat_40 (E : EV) (a0 : Nat)  (μ : Mem)  : J E I_M_boat (rmk 2 0 0) (QR E I_M_boat (rmk 2 0 0)) 0 0 μ 40 [some (.inr a0), none, none] [] (b_M_boat_40 a0 μ) := by
  unfold b_M_boat_40
  refine J_aload_n zd_M_boat_40 rfl ?_
  refine J_bipush (v := (-6)) zd_M_boat_41 (by decide) ?_
  refine J_callVi (ci := 10) (as := [.inl _]) zd_M_boat_43 zm_M_no ⟨Nat.le_of_ble_eq_true rfl, Nat.le_of_ble_eq_true rfl⟩ zw_821 zw_823 zs_22 (by decide) rfl rfl (Nat.le_of_ble_eq_true rfl) ⟨Nat.le_of_ble_eq_true rfl, Nat.le_of_ble_eq_true rfl⟩ rfl rfl (c_M_no E _ _ _) (fun v2 μ1 => ?_)
  exact J_iret zd_M_boat_46 rfl (Nat.le_of_ble_eq_true rfl) (Nat.le_of_ble_eq_true rfl)
def f_M_boat (a0 : Nat) (a1 : Int32) (a2 : Int32) (μ : Mem) : Option (LV × Mem) := bI (f_M_isStation a1 μ) (fun v4 μ3 => (if v4 = 0 then cV 10 a0 μ3 (bI (f_M_no a0 (-1) μ3) (fun v17 μ16 => (some (.inl v17, μ16)))) else (if 1 ≤ a2 then (if 20 < a2 then (b_M_boat_40 a0 μ3) else gI 10 a0 2 μ3 (fun v5 => (if v5 = 8 then (b_M_boat_40 a0 μ3) else gR 10 a0 16 μ3 (fun r6 => gI 10 a0 2 μ3 (fun v7 => aS r6 v7 a1 μ3 (fun μ8 => gR 10 a0 17 μ8 (fun r9 => gI 10 a0 2 μ8 (fun v10 => aS r9 v10 a2 μ8 (fun μ11 => gI 10 a0 2 μ11 (fun v12 => pI 10 a0 2 (v12 + 1) μ11 (fun μ13 => (some (.inl v12, μ13))))))))))))) else cV 10 a0 μ3 (bI (f_M_no a0 (-4) μ3) (fun v15 μ14 => (some (.inl v15, μ14)))))))
set_option maxRecDepth 20000 in
theorem c_M_boat (E : EV) (a0 : Nat) (a1 : Int32) (a2 : Int32) (μ : Mem) : Ct E I_M_boat (rmk 2 0 0) [.inr a0, .inl a1, .inl a2] μ (f_M_boat a0 a1 a2 μ) := by
  refine Ct.of (k := 0) (by decide +kernel) rfl ?_
  show J E I_M_boat (rmk 2 0 0) (QR E I_M_boat (rmk 2 0 0)) 0 0 μ 0 [some (.inr a0), some (.inl a1), some (.inl a2)] [] (f_M_boat a0 a1 a2 μ)
  unfold f_M_boat
  refine J_iload_n zd_M_boat_0 rfl ?_
  refine J_callSi (as := [.inl _]) zd_M_boat_1 zm_M_isStation ⟨Nat.le_of_ble_eq_true rfl, Nat.le_of_ble_eq_true rfl⟩ zw_818 zw_819 rfl (Nat.le_of_ble_eq_true rfl) ⟨Nat.le_of_ble_eq_true rfl, Nat.le_of_ble_eq_true rfl⟩ rfl rfl (c_M_isStation E _ _) (fun v4 μ3 => ?_)
  refine J_if_ne (tgt := 13) zd_M_boat_4 rfl ?_ ?_
  · refine J_iload_n zd_M_boat_13 rfl ?_
    refine J_iconst (v := 1) zd_M_boat_14 (by decide) ?_
    refine J_icmp_ge (tgt := 25) zd_M_boat_15 rfl ?_ ?_
    · refine J_iload_n zd_M_boat_25 rfl ?_
      refine J_bipush (v := 20) zd_M_boat_26 (by decide) ?_
      refine J_icmp_gt (tgt := 40) zd_M_boat_28 rfl ?_ ?_
      · refine J_wid (k := 0) (n := 0) (Nat.le_of_ble_eq_true rfl) (Nat.le_of_ble_eq_true rfl) ?_
        refine J_keep [true, false, false] rfl ?_
        exact j_M_boat_40 E _ _
      · refine J_aload_n zd_M_boat_31 rfl ?_
        refine J_gI zd_M_boat_32 zf_M_113 rfl (fun v5 => ?_)
        refine J_bipush (v := 8) zd_M_boat_35 (by decide) ?_
        refine J_icmp_ne (tgt := 47) zd_M_boat_37 rfl ?_ ?_
        · refine J_aload_n zd_M_boat_47 rfl ?_
          refine J_gR zd_M_boat_48 zf_M_44 rfl (fun r6 => ?_)
          refine J_aload_n zd_M_boat_51 rfl ?_
          refine J_gI zd_M_boat_52 zf_M_113 rfl (fun v7 => ?_)
          refine J_iload_n zd_M_boat_55 rfl ?_
          refine J_aS zd_M_boat_56 (fun μ8 => ?_)
          refine J_aload_n zd_M_boat_57 rfl ?_
          refine J_gR zd_M_boat_58 zf_M_47 rfl (fun r9 => ?_)
          refine J_aload_n zd_M_boat_61 rfl ?_
          refine J_gI zd_M_boat_62 zf_M_113 rfl (fun v10 => ?_)
          refine J_iload_n zd_M_boat_65 rfl ?_
          refine J_aS zd_M_boat_66 (fun μ11 => ?_)
          refine J_aload_n zd_M_boat_67 rfl ?_
          refine J_dup zd_M_boat_68 ?_
          refine J_gI zd_M_boat_69 zf_M_113 rfl (fun v12 => ?_)
          refine J_dup_x1 zd_M_boat_72 ?_
          refine J_iconst (v := 1) zd_M_boat_73 (by decide) ?_
          refine J_iadd zd_M_boat_74 ?_
          refine J_pI zd_M_boat_75 zf_M_113 ⟨zt_M, zn_M, Or.inl rfl⟩ rfl rfl (fun μ13 => ?_)
          exact J_iret zd_M_boat_78 rfl (Nat.le_of_ble_eq_true rfl) (Nat.le_of_ble_eq_true rfl)
        · refine J_wid (k := 0) (n := 0) (Nat.le_of_ble_eq_true rfl) (Nat.le_of_ble_eq_true rfl) ?_
          refine J_keep [true, false, false] rfl ?_
          exact j_M_boat_40 E _ _
    · refine J_aload_n zd_M_boat_18 rfl ?_
      refine J_bipush (v := (-4)) zd_M_boat_19 (by decide) ?_
      refine J_callVi (ci := 10) (as := [.inl _]) zd_M_boat_21 zm_M_no ⟨Nat.le_of_ble_eq_true rfl, Nat.le_of_ble_eq_true rfl⟩ zw_821 zw_823 zs_22 (by decide) rfl rfl (Nat.le_of_ble_eq_true rfl) ⟨Nat.le_of_ble_eq_true rfl, Nat.le_of_ble_eq_true rfl⟩ rfl rfl (c_M_no E _ _ _) (fun v15 μ14 => ?_)
      exact J_iret zd_M_boat_24 rfl (Nat.le_of_ble_eq_true rfl) (Nat.le_of_ble_eq_true rfl)
  · refine J_aload_n zd_M_boat_7 rfl ?_
    refine J_iconst (v := (-1)) zd_M_boat_8 (by decide) ?_
    refine J_callVi (ci := 10) (as := [.inl _]) zd_M_boat_9 zm_M_no ⟨Nat.le_of_ble_eq_true rfl, Nat.le_of_ble_eq_true rfl⟩ zw_821 zw_823 zs_22 (by decide) rfl rfl (Nat.le_of_ble_eq_true rfl) ⟨Nat.le_of_ble_eq_true rfl, Nat.le_of_ble_eq_true rfl⟩ rfl rfl (c_M_no E _ _ _) (fun v17 μ16 => ?_)
    exact J_iret zd_M_boat_12 rfl (Nat.le_of_ble_eq_true rfl) (Nat.le_of_ble_eq_true rfl)
def f_M_isBoat (a0 : Nat) (a1 : Int32) (μ : Mem) : Option (LV × Mem) := (if a1 < 0 then (some (.inl 0, μ)) else gI 10 a0 2 μ (fun v1 => (if v1 ≤ a1 then (some (.inl 0, μ)) else (some (.inl 1, μ)))))
set_option maxRecDepth 20000 in
theorem c_M_isBoat (E : EV) (a0 : Nat) (a1 : Int32) (μ : Mem) : Ct E I_M_isBoat (rmk 1 0 0) [.inr a0, .inl a1] μ (f_M_isBoat a0 a1 μ) := by
  refine Ct.of (k := 0) (by decide +kernel) rfl ?_
  show J E I_M_isBoat (rmk 1 0 0) (QR E I_M_isBoat (rmk 1 0 0)) 0 0 μ 0 [some (.inr a0), some (.inl a1)] [] (f_M_isBoat a0 a1 μ)
  unfold f_M_isBoat
  refine J_iload_n zd_M_isBoat_0 rfl ?_
  refine J_if_lt (tgt := 16) zd_M_isBoat_1 rfl ?_ ?_
  · refine J_iconst (v := 0) zd_M_isBoat_16 (by decide) ?_
    exact J_zret zd_M_isBoat_17 rfl rfl (Nat.le_of_ble_eq_true rfl) (Nat.le_of_ble_eq_true rfl)
  · refine J_iload_n zd_M_isBoat_4 rfl ?_
    refine J_aload_n zd_M_isBoat_5 rfl ?_
    refine J_gI zd_M_isBoat_6 zf_M_113 rfl (fun v1 => ?_)
    refine J_icmp_ge (tgt := 16) zd_M_isBoat_9 rfl ?_ ?_
    · refine J_iconst (v := 0) zd_M_isBoat_16 (by decide) ?_
      exact J_zret zd_M_isBoat_17 rfl rfl (Nat.le_of_ble_eq_true rfl) (Nat.le_of_ble_eq_true rfl)
    · refine J_iconst (v := 1) zd_M_isBoat_12 (by decide) ?_
      refine J_goto (tgt := 17) zd_M_isBoat_13 rfl ?_
      exact J_zret zd_M_isBoat_17 rfl rfl (Nat.le_of_ble_eq_true rfl) (Nat.le_of_ble_eq_true rfl)
def b_M_speed_17  (a0 : Nat)  (μ : Mem) : Option (LV × Mem) := cV 10 a0 μ (bI (f_M_no a0 (-1) μ) (fun v2 μ1 => (some (.inl v2, μ1))))
set_option maxRecDepth 20000 in
theorem j_M_speed_17 (E : EV) (a0 : Nat)  (μ : Mem)  : J E I_M_speed (rmk 2 0 0) (QR E I_M_speed (rmk 2 0 0)) 0 0 μ 17 [some (.inr a0), none, none, none, none] [] (b_M_speed_17 a0 μ) := by
  unfold b_M_speed_17
  refine J_aload_n zd_M_speed_17 rfl ?_
  refine J_iconst (v := (-1)) zd_M_speed_18 (by decide) ?_
  refine J_callVi (ci := 10) (as := [.inl _]) zd_M_speed_19 zm_M_no ⟨Nat.le_of_ble_eq_true rfl, Nat.le_of_ble_eq_true rfl⟩ zw_821 zw_823 zs_22 (by decide) rfl rfl (Nat.le_of_ble_eq_true rfl) ⟨Nat.le_of_ble_eq_true rfl, Nat.le_of_ble_eq_true rfl⟩ rfl rfl (c_M_no E _ _ _) (fun v2 μ1 => ?_)
  exact J_iret zd_M_speed_22 rfl (Nat.le_of_ble_eq_true rfl) (Nat.le_of_ble_eq_true rfl)
def f_M_speed (a0 : Nat) (a1 : Int32) (a2 : Int32) (a3 : Int32) (μ : Mem) : Option (LV × Mem) := cV 10 a0 μ (bI (f_M_isBoat a0 a1 μ) (fun v4 μ3 => (if v4 = 0 then (b_M_speed_17 a0 μ3) else (if a2 < 0 then (b_M_speed_17 a0 μ3) else (if a2 ≤ 4 then (if 0 ≤ a3 then (if a3 ≤ 30 then gR 10 a0 19 μ3 (fun r5 => aI r5 ((5 * a1) + a2) μ3 (fun v6 => gR 10 a0 19 μ3 (fun r7 => aS r7 ((5 * a1) + a2) a3 μ3 (fun μ8 => (some (.inl v6, μ8)))))) else cV 10 a0 μ3 (bI (f_M_no a0 (-6) μ3) (fun v10 μ9 => (some (.inl v10, μ9))))) else cV 10 a0 μ3 (bI (f_M_no a0 (-4) μ3) (fun v12 μ11 => (some (.inl v12, μ11))))) else (b_M_speed_17 a0 μ3))))))
set_option maxRecDepth 20000 in
theorem c_M_speed (E : EV) (a0 : Nat) (a1 : Int32) (a2 : Int32) (a3 : Int32) (μ : Mem) : Ct E I_M_speed (rmk 2 0 0) [.inr a0, .inl a1, .inl a2, .inl a3] μ (f_M_speed a0 a1 a2 a3 μ) := by
  refine Ct.of (k := 1) (by decide +kernel) rfl ?_
  show J E I_M_speed (rmk 2 0 0) (QR E I_M_speed (rmk 2 0 0)) 0 0 μ 0 [some (.inr a0), some (.inl a1), some (.inl a2), some (.inl a3), none] [] (f_M_speed a0 a1 a2 a3 μ)
  unfold f_M_speed
  refine J_aload_n zd_M_speed_0 rfl ?_
  refine J_iload_n zd_M_speed_1 rfl ?_
  refine J_callVi (ci := 10) (as := [.inl _]) zd_M_speed_2 zm_M_isBoat ⟨Nat.le_of_ble_eq_true rfl, Nat.le_of_ble_eq_true rfl⟩ zw_920 zw_922 zs_32 (by decide) rfl rfl (Nat.le_of_ble_eq_true rfl) ⟨Nat.le_of_ble_eq_true rfl, Nat.le_of_ble_eq_true rfl⟩ rfl rfl (c_M_isBoat E _ _ _) (fun v4 μ3 => ?_)
  refine J_if_eq (tgt := 17) zd_M_speed_5 rfl ?_ ?_
  · refine J_wid (k := 0) (n := 0) (Nat.le_of_ble_eq_true rfl) (Nat.le_of_ble_eq_true rfl) ?_
    refine J_keep [true, false, false, false, false] rfl ?_
    exact j_M_speed_17 E _ _
  · refine J_iload_n zd_M_speed_8 rfl ?_
    refine J_if_lt (tgt := 17) zd_M_speed_9 rfl ?_ ?_
    · refine J_wid (k := 0) (n := 0) (Nat.le_of_ble_eq_true rfl) (Nat.le_of_ble_eq_true rfl) ?_
      refine J_keep [true, false, false, false, false] rfl ?_
      exact j_M_speed_17 E _ _
    · refine J_iload_n zd_M_speed_12 rfl ?_
      refine J_iconst (v := 4) zd_M_speed_13 (by decide) ?_
      refine J_icmp_le (tgt := 23) zd_M_speed_14 rfl ?_ ?_
      · refine J_iload_n zd_M_speed_23 rfl ?_
        refine J_if_ge (tgt := 34) zd_M_speed_24 rfl ?_ ?_
        · refine J_iload_n zd_M_speed_34 rfl ?_
          refine J_bipush (v := 30) zd_M_speed_35 (by decide) ?_
          refine J_icmp_le (tgt := 47) zd_M_speed_37 rfl ?_ ?_
          · refine J_aload_n zd_M_speed_47 rfl ?_
            refine J_gR zd_M_speed_48 zf_M_53 rfl (fun r5 => ?_)
            refine J_iconst (v := 5) zd_M_speed_51 (by decide) ?_
            refine J_iload_n zd_M_speed_52 rfl ?_
            refine J_imul zd_M_speed_53 ?_
            refine J_iload_n zd_M_speed_54 rfl ?_
            refine J_iadd zd_M_speed_55 ?_
            refine J_aI zd_M_speed_56 (fun v6 => ?_)
            refine J_istore (lv' := [some _, some _, some _, some _, some _]) zd_M_speed_57 (Nat.le_of_ble_eq_true rfl) rfl ?_
            refine J_aload_n zd_M_speed_59 rfl ?_
            refine J_gR zd_M_speed_60 zf_M_53 rfl (fun r7 => ?_)
            refine J_iconst (v := 5) zd_M_speed_63 (by decide) ?_
            refine J_iload_n zd_M_speed_64 rfl ?_
            refine J_imul zd_M_speed_65 ?_
            refine J_iload_n zd_M_speed_66 rfl ?_
            refine J_iadd zd_M_speed_67 ?_
            refine J_iload_n zd_M_speed_68 rfl ?_
            refine J_aS zd_M_speed_69 (fun μ8 => ?_)
            refine J_iload zd_M_speed_70 rfl ?_
            exact J_iret zd_M_speed_72 rfl (Nat.le_of_ble_eq_true rfl) (Nat.le_of_ble_eq_true rfl)
          · refine J_aload_n zd_M_speed_40 rfl ?_
            refine J_bipush (v := (-6)) zd_M_speed_41 (by decide) ?_
            refine J_callVi (ci := 10) (as := [.inl _]) zd_M_speed_43 zm_M_no ⟨Nat.le_of_ble_eq_true rfl, Nat.le_of_ble_eq_true rfl⟩ zw_821 zw_823 zs_22 (by decide) rfl rfl (Nat.le_of_ble_eq_true rfl) ⟨Nat.le_of_ble_eq_true rfl, Nat.le_of_ble_eq_true rfl⟩ rfl rfl (c_M_no E _ _ _) (fun v10 μ9 => ?_)
            exact J_iret zd_M_speed_46 rfl (Nat.le_of_ble_eq_true rfl) (Nat.le_of_ble_eq_true rfl)
        · refine J_aload_n zd_M_speed_27 rfl ?_
          refine J_bipush (v := (-4)) zd_M_speed_28 (by decide) ?_
          refine J_callVi (ci := 10) (as := [.inl _]) zd_M_speed_30 zm_M_no ⟨Nat.le_of_ble_eq_true rfl, Nat.le_of_ble_eq_true rfl⟩ zw_821 zw_823 zs_22 (by decide) rfl rfl (Nat.le_of_ble_eq_true rfl) ⟨Nat.le_of_ble_eq_true rfl, Nat.le_of_ble_eq_true rfl⟩ rfl rfl (c_M_no E _ _ _) (fun v12 μ11 => ?_)
          exact J_iret zd_M_speed_33 rfl (Nat.le_of_ble_eq_true rfl) (Nat.le_of_ble_eq_true rfl)
      · refine J_wid (k := 0) (n := 0) (Nat.le_of_ble_eq_true rfl) (Nat.le_of_ble_eq_true rfl) ?_
        refine J_keep [true, false, false, false, false] rfl ?_
        exact j_M_speed_17 E _ _
def f_M_isAway (a0 : Nat) (a1 : Int32) (μ : Mem) : Option (LV × Mem) := gI 10 a0 0 μ (fun v1 => gR 10 a0 18 μ (fun r2 => aI r2 a1 μ (fun v3 => (if v3 ≤ v1 then (some (.inl 0, μ)) else (some (.inl 1, μ))))))
set_option maxRecDepth 20000 in
theorem c_M_isAway (E : EV) (a0 : Nat) (a1 : Int32) (μ : Mem) : Ct E I_M_isAway (rmk 1 0 0) [.inr a0, .inl a1] μ (f_M_isAway a0 a1 μ) := by
  refine Ct.of (k := 0) (by decide +kernel) rfl ?_
  show J E I_M_isAway (rmk 1 0 0) (QR E I_M_isAway (rmk 1 0 0)) 0 0 μ 0 [some (.inr a0), some (.inl a1)] [] (f_M_isAway a0 a1 μ)
  unfold f_M_isAway
  refine J_aload_n zd_M_isAway_0 rfl ?_
  refine J_gI zd_M_isAway_1 zf_M_119 rfl (fun v1 => ?_)
  refine J_aload_n zd_M_isAway_4 rfl ?_
  refine J_gR zd_M_isAway_5 zf_M_50 rfl (fun r2 => ?_)
  refine J_iload_n zd_M_isAway_8 rfl ?_
  refine J_aI zd_M_isAway_9 (fun v3 => ?_)
  refine J_icmp_ge (tgt := 17) zd_M_isAway_10 rfl ?_ ?_
  · refine J_iconst (v := 0) zd_M_isAway_17 (by decide) ?_
    exact J_zret zd_M_isAway_18 rfl rfl (Nat.le_of_ble_eq_true rfl) (Nat.le_of_ble_eq_true rfl)
  · refine J_iconst (v := 1) zd_M_isAway_13 (by decide) ?_
    refine J_goto (tgt := 18) zd_M_isAway_14 rfl ?_
    exact J_zret zd_M_isAway_18 rfl rfl (Nat.le_of_ble_eq_true rfl) (Nat.le_of_ble_eq_true rfl)
def b_M_move_15  (a0 : Nat)  (μ : Mem) : Option (LV × Mem) := cV 10 a0 μ (bI (f_M_no a0 (-1) μ) (fun v2 μ1 => (some (.inl v2, μ1))))
set_option maxRecDepth 20000 in
theorem j_M_move_15 (E : EV) (a0 : Nat)  (μ : Mem)  : J E I_M_move (rmk 2 0 0) (QR E I_M_move (rmk 2 0 0)) 0 0 μ 15 [some (.inr a0), none, none, none] [] (b_M_move_15 a0 μ) := by
  unfold b_M_move_15
  refine J_aload_n zd_M_move_15 rfl ?_
  refine J_iconst (v := (-1)) zd_M_move_16 (by decide) ?_
  refine J_callVi (ci := 10) (as := [.inl _]) zd_M_move_17 zm_M_no ⟨Nat.le_of_ble_eq_true rfl, Nat.le_of_ble_eq_true rfl⟩ zw_821 zw_823 zs_22 (by decide) rfl rfl (Nat.le_of_ble_eq_true rfl) ⟨Nat.le_of_ble_eq_true rfl, Nat.le_of_ble_eq_true rfl⟩ rfl rfl (c_M_no E _ _ _) (fun v2 μ1 => ?_)
  exact J_iret zd_M_move_20 rfl (Nat.le_of_ble_eq_true rfl) (Nat.le_of_ble_eq_true rfl)
def f_M_move (a0 : Nat) (a1 : Int32) (a2 : Int32) (μ : Mem) : Option (LV × Mem) := cV 10 a0 μ (bI (f_M_isBoat a0 a1 μ) (fun v4 μ3 => (if v4 = 0 then (b_M_move_15 a0 μ3) else bI (f_M_isStation a2 μ3) (fun v6 μ5 => (if v6 = 0 then (b_M_move_15 a0 μ5) else cV 10 a0 μ5 (bI (f_M_isAway a0 a1 μ5) (fun v8 μ7 => (if v8 = 0 then gR 10 a0 16 μ7 (fun r9 => aI r9 a1 μ7 (fun v10 => gR 10 a0 16 μ7 (fun r11 => aS r11 a1 a2 μ7 (fun μ12 => (some (.inl v10, μ12)))))) else cV 10 a0 μ7 (bI (f_M_no a0 (-3) μ7) (fun v14 μ13 => (some (.inl v14, μ13))))))))))))
set_option maxRecDepth 20000 in
theorem c_M_move (E : EV) (a0 : Nat) (a1 : Int32) (a2 : Int32) (μ : Mem) : Ct E I_M_move (rmk 2 0 0) [.inr a0, .inl a1, .inl a2] μ (f_M_move a0 a1 a2 μ) := by
  refine Ct.of (k := 1) (by decide +kernel) rfl ?_
  show J E I_M_move (rmk 2 0 0) (QR E I_M_move (rmk 2 0 0)) 0 0 μ 0 [some (.inr a0), some (.inl a1), some (.inl a2), none] [] (f_M_move a0 a1 a2 μ)
  unfold f_M_move
  refine J_aload_n zd_M_move_0 rfl ?_
  refine J_iload_n zd_M_move_1 rfl ?_
  refine J_callVi (ci := 10) (as := [.inl _]) zd_M_move_2 zm_M_isBoat ⟨Nat.le_of_ble_eq_true rfl, Nat.le_of_ble_eq_true rfl⟩ zw_920 zw_922 zs_32 (by decide) rfl rfl (Nat.le_of_ble_eq_true rfl) ⟨Nat.le_of_ble_eq_true rfl, Nat.le_of_ble_eq_true rfl⟩ rfl rfl (c_M_isBoat E _ _ _) (fun v4 μ3 => ?_)
  refine J_if_eq (tgt := 15) zd_M_move_5 rfl ?_ ?_
  · refine J_wid (k := 0) (n := 0) (Nat.le_of_ble_eq_true rfl) (Nat.le_of_ble_eq_true rfl) ?_
    refine J_keep [true, false, false, false] rfl ?_
    exact j_M_move_15 E _ _
  · refine J_iload_n zd_M_move_8 rfl ?_
    refine J_callSi (as := [.inl _]) zd_M_move_9 zm_M_isStation ⟨Nat.le_of_ble_eq_true rfl, Nat.le_of_ble_eq_true rfl⟩ zw_818 zw_819 rfl (Nat.le_of_ble_eq_true rfl) ⟨Nat.le_of_ble_eq_true rfl, Nat.le_of_ble_eq_true rfl⟩ rfl rfl (c_M_isStation E _ _) (fun v6 μ5 => ?_)
    refine J_if_ne (tgt := 21) zd_M_move_12 rfl ?_ ?_
    · refine J_aload_n zd_M_move_21 rfl ?_
      refine J_iload_n zd_M_move_22 rfl ?_
      refine J_callVi (ci := 10) (as := [.inl _]) zd_M_move_23 zm_M_isAway ⟨Nat.le_of_ble_eq_true rfl, Nat.le_of_ble_eq_true rfl⟩ zw_928 zw_930 zs_33 (by decide) rfl rfl (Nat.le_of_ble_eq_true rfl) ⟨Nat.le_of_ble_eq_true rfl, Nat.le_of_ble_eq_true rfl⟩ rfl rfl (c_M_isAway E _ _ _) (fun v8 μ7 => ?_)
      refine J_if_eq (tgt := 36) zd_M_move_26 rfl ?_ ?_
      · refine J_aload_n zd_M_move_36 rfl ?_
        refine J_gR zd_M_move_37 zf_M_44 rfl (fun r9 => ?_)
        refine J_iload_n zd_M_move_40 rfl ?_
        refine J_aI zd_M_move_41 (fun v10 => ?_)
        refine J_istore_n (lv' := [some _, some _, some _, some _]) zd_M_move_42 (Nat.le_of_ble_eq_true rfl) rfl ?_
        refine J_aload_n zd_M_move_43 rfl ?_
        refine J_gR zd_M_move_44 zf_M_44 rfl (fun r11 => ?_)
        refine J_iload_n zd_M_move_47 rfl ?_
        refine J_iload_n zd_M_move_48 rfl ?_
        refine J_aS zd_M_move_49 (fun μ12 => ?_)
        refine J_iload_n zd_M_move_50 rfl ?_
        exact J_iret zd_M_move_51 rfl (Nat.le_of_ble_eq_true rfl) (Nat.le_of_ble_eq_true rfl)
      · refine J_aload_n zd_M_move_29 rfl ?_
        refine J_bipush (v := (-3)) zd_M_move_30 (by decide) ?_
        refine J_callVi (ci := 10) (as := [.inl _]) zd_M_move_32 zm_M_no ⟨Nat.le_of_ble_eq_true rfl, Nat.le_of_ble_eq_true rfl⟩ zw_821 zw_823 zs_22 (by decide) rfl rfl (Nat.le_of_ble_eq_true rfl) ⟨Nat.le_of_ble_eq_true rfl, Nat.le_of_ble_eq_true rfl⟩ rfl rfl (c_M_no E _ _ _) (fun v14 μ13 => ?_)
        exact J_iret zd_M_move_35 rfl (Nat.le_of_ble_eq_true rfl) (Nat.le_of_ble_eq_true rfl)
    · refine J_wid (k := 0) (n := 0) (Nat.le_of_ble_eq_true rfl) (Nat.le_of_ble_eq_true rfl) ?_
      refine J_keep [true, false, false, false] rfl ?_
      exact j_M_move_15 E _ _
def b_M_call_9  (a0 : Nat)  (μ : Mem) : Option (LV × Mem) := cV 10 a0 μ (bI (f_M_no a0 (-1) μ) (fun v2 μ1 => (some (.inl v2, μ1))))
set_option maxRecDepth 20000 in
theorem j_M_call_9 (E : EV) (a0 : Nat)  (μ : Mem)  : J E I_M_call (rmk 2 0 0) (QR E I_M_call (rmk 2 0 0)) 0 0 μ 9 [some (.inr a0), none, none, none] [] (b_M_call_9 a0 μ) := by
  unfold b_M_call_9
  refine J_aload_n zd_M_call_9 rfl ?_
  refine J_iconst (v := (-1)) zd_M_call_10 (by decide) ?_
  refine J_callVi (ci := 10) (as := [.inl _]) zd_M_call_11 zm_M_no ⟨Nat.le_of_ble_eq_true rfl, Nat.le_of_ble_eq_true rfl⟩ zw_821 zw_823 zs_22 (by decide) rfl rfl (Nat.le_of_ble_eq_true rfl) ⟨Nat.le_of_ble_eq_true rfl, Nat.le_of_ble_eq_true rfl⟩ rfl rfl (c_M_no E _ _ _) (fun v2 μ1 => ?_)
  exact J_iret zd_M_call_14 rfl (Nat.le_of_ble_eq_true rfl) (Nat.le_of_ble_eq_true rfl)
def b_M_call_23  (a0 : Nat)  (μ : Mem) : Option (LV × Mem) := cV 10 a0 μ (bI (f_M_no a0 (-4) μ) (fun v4 μ3 => (some (.inl v4, μ3))))
set_option maxRecDepth 20000 in
theorem j_M_call_23 (E : EV) (a0 : Nat)  (μ : Mem)  : J E I_M_call (rmk 2 0 0) (QR E I_M_call (rmk 2 0 0)) 0 0 μ 23 [some (.inr a0), none, none, none] [] (b_M_call_23 a0 μ) := by
  unfold b_M_call_23
  refine J_aload_n zd_M_call_23 rfl ?_
  refine J_bipush (v := (-4)) zd_M_call_24 (by decide) ?_
  refine J_callVi (ci := 10) (as := [.inl _]) zd_M_call_26 zm_M_no ⟨Nat.le_of_ble_eq_true rfl, Nat.le_of_ble_eq_true rfl⟩ zw_821 zw_823 zs_22 (by decide) rfl rfl (Nat.le_of_ble_eq_true rfl) ⟨Nat.le_of_ble_eq_true rfl, Nat.le_of_ble_eq_true rfl⟩ rfl rfl (c_M_no E _ _ _) (fun v4 μ3 => ?_)
  exact J_iret zd_M_call_29 rfl (Nat.le_of_ble_eq_true rfl) (Nat.le_of_ble_eq_true rfl)
def b_M_call_52  (a0 : Nat)  (μ : Mem) : Option (LV × Mem) := cV 10 a0 μ (bI (f_M_no a0 (-6) μ) (fun v6 μ5 => (some (.inl v6, μ5))))
set_option maxRecDepth 20000 in
theorem j_M_call_52 (E : EV) (a0 : Nat)  (μ : Mem)  : J E I_M_call (rmk 2 0 0) (QR E I_M_call (rmk 2 0 0)) 0 0 μ 52 [some (.inr a0), none, none, none] [] (b_M_call_52 a0 μ) := by
  unfold b_M_call_52
  refine J_aload_n zd_M_call_52 rfl ?_
  refine J_bipush (v := (-6)) zd_M_call_53 (by decide) ?_
  refine J_callVi (ci := 10) (as := [.inl _]) zd_M_call_55 zm_M_no ⟨Nat.le_of_ble_eq_true rfl, Nat.le_of_ble_eq_true rfl⟩ zw_821 zw_823 zs_22 (by decide) rfl rfl (Nat.le_of_ble_eq_true rfl) ⟨Nat.le_of_ble_eq_true rfl, Nat.le_of_ble_eq_true rfl⟩ rfl rfl (c_M_no E _ _ _) (fun v6 μ5 => ?_)
  exact J_iret zd_M_call_58 rfl (Nat.le_of_ble_eq_true rfl) (Nat.le_of_ble_eq_true rfl)
def f_M_call (a0 : Nat) (a1 : Int32) (a2 : Int32) (a3 : Int32) (μ : Mem) : Option (LV × Mem) := (if a3 < 0 then (b_M_call_9 a0 μ) else (if a3 ≤ 4 then (if a1 < 0 then (b_M_call_23 a0 μ) else (if 0 ≤ a2 then (if 300 < a1 then (b_M_call_52 a0 μ) else (if 60 < a2 then (b_M_call_52 a0 μ) else gI 10 a0 3 μ (fun v7 => (if v7 = 20 then (b_M_call_52 a0 μ) else gR 10 a0 20 μ (fun r8 => gI 10 a0 3 μ (fun v9 => aS r8 v9 a1 μ (fun μ10 => gR 10 a0 21 μ10 (fun r11 => gI 10 a0 3 μ10 (fun v12 => aS r11 v12 a2 μ10 (fun μ13 => gR 10 a0 22 μ13 (fun r14 => gI 10 a0 3 μ13 (fun v15 => aS r14 v15 a3 μ13 (fun μ16 => gI 10 a0 3 μ16 (fun v17 => pI 10 a0 3 (v17 + 1) μ16 (fun μ18 => (some (.inl v17, μ18))))))))))))))))) else (b_M_call_23 a0 μ))) else (b_M_call_9 a0 μ)))
set_option maxRecDepth 20000 in
theorem c_M_call (E : EV) (a0 : Nat) (a1 : Int32) (a2 : Int32) (a3 : Int32) (μ : Mem) : Ct E I_M_call (rmk 2 0 0) [.inr a0, .inl a1, .inl a2, .inl a3] μ (f_M_call a0 a1 a2 a3 μ) := by
  refine Ct.of (k := 0) (by decide +kernel) rfl ?_
  show J E I_M_call (rmk 2 0 0) (QR E I_M_call (rmk 2 0 0)) 0 0 μ 0 [some (.inr a0), some (.inl a1), some (.inl a2), some (.inl a3)] [] (f_M_call a0 a1 a2 a3 μ)
  unfold f_M_call
  refine J_iload_n zd_M_call_0 rfl ?_
  refine J_if_lt (tgt := 9) zd_M_call_1 rfl ?_ ?_
  · refine J_wid (k := 0) (n := 0) (Nat.le_of_ble_eq_true rfl) (Nat.le_of_ble_eq_true rfl) ?_
    refine J_keep [true, false, false, false] rfl ?_
    exact j_M_call_9 E _ _
  · refine J_iload_n zd_M_call_4 rfl ?_
    refine J_iconst (v := 4) zd_M_call_5 (by decide) ?_
    refine J_icmp_le (tgt := 15) zd_M_call_6 rfl ?_ ?_
    · refine J_iload_n zd_M_call_15 rfl ?_
      refine J_if_lt (tgt := 23) zd_M_call_16 rfl ?_ ?_
      · refine J_wid (k := 0) (n := 0) (Nat.le_of_ble_eq_true rfl) (Nat.le_of_ble_eq_true rfl) ?_
        refine J_keep [true, false, false, false] rfl ?_
        exact j_M_call_23 E _ _
      · refine J_iload_n zd_M_call_19 rfl ?_
        refine J_if_ge (tgt := 30) zd_M_call_20 rfl ?_ ?_
        · refine J_iload_n zd_M_call_30 rfl ?_
          refine J_sipush (v := 300) zd_M_call_31 (by decide) ?_
          refine J_icmp_gt (tgt := 52) zd_M_call_34 rfl ?_ ?_
          · refine J_wid (k := 0) (n := 0) (Nat.le_of_ble_eq_true rfl) (Nat.le_of_ble_eq_true rfl) ?_
            refine J_keep [true, false, false, false] rfl ?_
            exact j_M_call_52 E _ _
          · refine J_iload_n zd_M_call_37 rfl ?_
            refine J_bipush (v := 60) zd_M_call_38 (by decide) ?_
            refine J_icmp_gt (tgt := 52) zd_M_call_40 rfl ?_ ?_
            · refine J_wid (k := 0) (n := 0) (Nat.le_of_ble_eq_true rfl) (Nat.le_of_ble_eq_true rfl) ?_
              refine J_keep [true, false, false, false] rfl ?_
              exact j_M_call_52 E _ _
            · refine J_aload_n zd_M_call_43 rfl ?_
              refine J_gI zd_M_call_44 zf_M_116 rfl (fun v7 => ?_)
              refine J_bipush (v := 20) zd_M_call_47 (by decide) ?_
              refine J_icmp_ne (tgt := 59) zd_M_call_49 rfl ?_ ?_
              · refine J_aload_n zd_M_call_59 rfl ?_
                refine J_gR zd_M_call_60 zf_M_56 rfl (fun r8 => ?_)
                refine J_aload_n zd_M_call_63 rfl ?_
                refine J_gI zd_M_call_64 zf_M_116 rfl (fun v9 => ?_)
                refine J_iload_n zd_M_call_67 rfl ?_
                refine J_aS zd_M_call_68 (fun μ10 => ?_)
                refine J_aload_n zd_M_call_69 rfl ?_
                refine J_gR zd_M_call_70 zf_M_59 rfl (fun r11 => ?_)
                refine J_aload_n zd_M_call_73 rfl ?_
                refine J_gI zd_M_call_74 zf_M_116 rfl (fun v12 => ?_)
                refine J_iload_n zd_M_call_77 rfl ?_
                refine J_aS zd_M_call_78 (fun μ13 => ?_)
                refine J_aload_n zd_M_call_79 rfl ?_
                refine J_gR zd_M_call_80 zf_M_62 rfl (fun r14 => ?_)
                refine J_aload_n zd_M_call_83 rfl ?_
                refine J_gI zd_M_call_84 zf_M_116 rfl (fun v15 => ?_)
                refine J_iload_n zd_M_call_87 rfl ?_
                refine J_aS zd_M_call_88 (fun μ16 => ?_)
                refine J_aload_n zd_M_call_89 rfl ?_
                refine J_dup zd_M_call_90 ?_
                refine J_gI zd_M_call_91 zf_M_116 rfl (fun v17 => ?_)
                refine J_dup_x1 zd_M_call_94 ?_
                refine J_iconst (v := 1) zd_M_call_95 (by decide) ?_
                refine J_iadd zd_M_call_96 ?_
                refine J_pI zd_M_call_97 zf_M_116 ⟨zt_M, zn_M, Or.inl rfl⟩ rfl rfl (fun μ18 => ?_)
                exact J_iret zd_M_call_100 rfl (Nat.le_of_ble_eq_true rfl) (Nat.le_of_ble_eq_true rfl)
              · refine J_wid (k := 0) (n := 0) (Nat.le_of_ble_eq_true rfl) (Nat.le_of_ble_eq_true rfl) ?_
                refine J_keep [true, false, false, false] rfl ?_
                exact j_M_call_52 E _ _
        · refine J_wid (k := 0) (n := 0) (Nat.le_of_ble_eq_true rfl) (Nat.le_of_ble_eq_true rfl) ?_
          refine J_keep [true, false, false, false] rfl ?_
          exact j_M_call_23 E _ _
    · refine J_wid (k := 0) (n := 0) (Nat.le_of_ble_eq_true rfl) (Nat.le_of_ble_eq_true rfl) ?_
      refine J_keep [true, false, false, false] rfl ?_
      exact j_M_call_9 E _ _
def f_M_isCall (a0 : Nat) (a1 : Int32) (μ : Mem) : Option (LV × Mem) := (if a1 < 0 then (some (.inl 0, μ)) else gI 10 a0 3 μ (fun v1 => (if v1 ≤ a1 then (some (.inl 0, μ)) else (some (.inl 1, μ)))))
set_option maxRecDepth 20000 in
theorem c_M_isCall (E : EV) (a0 : Nat) (a1 : Int32) (μ : Mem) : Ct E I_M_isCall (rmk 1 0 0) [.inr a0, .inl a1] μ (f_M_isCall a0 a1 μ) := by
  refine Ct.of (k := 0) (by decide +kernel) rfl ?_
  show J E I_M_isCall (rmk 1 0 0) (QR E I_M_isCall (rmk 1 0 0)) 0 0 μ 0 [some (.inr a0), some (.inl a1)] [] (f_M_isCall a0 a1 μ)
  unfold f_M_isCall
  refine J_iload_n zd_M_isCall_0 rfl ?_
  refine J_if_lt (tgt := 16) zd_M_isCall_1 rfl ?_ ?_
  · refine J_iconst (v := 0) zd_M_isCall_16 (by decide) ?_
    exact J_zret zd_M_isCall_17 rfl rfl (Nat.le_of_ble_eq_true rfl) (Nat.le_of_ble_eq_true rfl)
  · refine J_iload_n zd_M_isCall_4 rfl ?_
    refine J_aload_n zd_M_isCall_5 rfl ?_
    refine J_gI zd_M_isCall_6 zf_M_116 rfl (fun v1 => ?_)
    refine J_icmp_ge (tgt := 16) zd_M_isCall_9 rfl ?_ ?_
    · refine J_iconst (v := 0) zd_M_isCall_16 (by decide) ?_
      exact J_zret zd_M_isCall_17 rfl rfl (Nat.le_of_ble_eq_true rfl) (Nat.le_of_ble_eq_true rfl)
    · refine J_iconst (v := 1) zd_M_isCall_12 (by decide) ?_
      refine J_goto (tgt := 17) zd_M_isCall_13 rfl ?_
      exact J_zret zd_M_isCall_17 rfl rfl (Nat.le_of_ble_eq_true rfl) (Nat.le_of_ble_eq_true rfl)
def f_M_speedFor (a0 : Nat) (a1 : Int32) (a2 : Int32) (μ : Mem) : Option (LV × Mem) := gR 10 a0 19 μ (fun r1 => gR 10 a0 22 μ (fun r2 => aI r2 a2 μ (fun v3 => aI r1 ((5 * a1) + v3) μ (fun v4 => (some (.inl v4, μ))))))
set_option maxRecDepth 20000 in
theorem c_M_speedFor (E : EV) (a0 : Nat) (a1 : Int32) (a2 : Int32) (μ : Mem) : Ct E I_M_speedFor (rmk 1 0 0) [.inr a0, .inl a1, .inl a2] μ (f_M_speedFor a0 a1 a2 μ) := by
  refine Ct.of (k := 0) (by decide +kernel) rfl ?_
  show J E I_M_speedFor (rmk 1 0 0) (QR E I_M_speedFor (rmk 1 0 0)) 0 0 μ 0 [some (.inr a0), some (.inl a1), some (.inl a2)] [] (f_M_speedFor a0 a1 a2 μ)
  unfold f_M_speedFor
  refine J_aload_n zd_M_speedFor_0 rfl ?_
  refine J_gR zd_M_speedFor_1 zf_M_53 rfl (fun r1 => ?_)
  refine J_iconst (v := 5) zd_M_speedFor_4 (by decide) ?_
  refine J_iload_n zd_M_speedFor_5 rfl ?_
  refine J_imul zd_M_speedFor_6 ?_
  refine J_aload_n zd_M_speedFor_7 rfl ?_
  refine J_gR zd_M_speedFor_8 zf_M_62 rfl (fun r2 => ?_)
  refine J_iload_n zd_M_speedFor_11 rfl ?_
  refine J_aI zd_M_speedFor_12 (fun v3 => ?_)
  refine J_iadd zd_M_speedFor_13 ?_
  refine J_aI zd_M_speedFor_14 (fun v4 => ?_)
  exact J_iret zd_M_speedFor_15 rfl (Nat.le_of_ble_eq_true rfl) (Nat.le_of_ble_eq_true rfl)
def f_M_size (a0 : Int32) (μ : Mem) : Option (LV × Mem) := (if 0 ≤ a0 then (some (.inl a0, μ)) else (some (.inl (-a0), μ)))
set_option maxRecDepth 20000 in
theorem c_M_size (E : EV) (a0 : Int32) (μ : Mem) : Ct E I_M_size (rmk 1 0 0) [.inl a0] μ (f_M_size a0 μ) := by
  refine Ct.of (k := 0) (by decide +kernel) rfl ?_
  show J E I_M_size (rmk 1 0 0) (QR E I_M_size (rmk 1 0 0)) 0 0 μ 0 [some (.inl a0)] [] (f_M_size a0 μ)
  unfold f_M_size
  refine J_iload_n zd_M_size_0 rfl ?_
  refine J_if_ge (tgt := 9) zd_M_size_1 rfl ?_ ?_
  · refine J_iload_n zd_M_size_9 rfl ?_
    exact J_iret zd_M_size_10 rfl (Nat.le_of_ble_eq_true rfl) (Nat.le_of_ble_eq_true rfl)
  · refine J_iload_n zd_M_size_4 rfl ?_
    refine J_ineg zd_M_size_5 ?_
    refine J_goto (tgt := 10) zd_M_size_6 rfl ?_
    exact J_iret zd_M_size_10 rfl (Nat.le_of_ble_eq_true rfl) (Nat.le_of_ble_eq_true rfl)
def f_M_way (a0 : Nat) (a1 : Int32) (a2 : Int32) (μ : Mem) : Option (LV × Mem) := gR 10 a0 7 μ (fun r1 => gR 10 a0 16 μ (fun r2 => aI r2 a1 μ (fun v3 => aI r1 v3 μ (fun v4 => gR 10 a0 20 μ (fun r5 => aI r5 a2 μ (fun v6 => bI (f_M_size (v4 - v6) μ) (fun v8 μ7 => gR 10 a0 21 μ7 (fun r9 => aI r9 a2 μ7 (fun v10 => (some (.inl (v8 + v10), μ7)))))))))))
set_option maxRecDepth 20000 in
theorem c_M_way (E : EV) (a0 : Nat) (a1 : Int32) (a2 : Int32) (μ : Mem) : Ct E I_M_way (rmk 2 0 0) [.inr a0, .inl a1, .inl a2] μ (f_M_way a0 a1 a2 μ) := by
  refine Ct.of (k := 0) (by decide +kernel) rfl ?_
  show J E I_M_way (rmk 2 0 0) (QR E I_M_way (rmk 2 0 0)) 0 0 μ 0 [some (.inr a0), some (.inl a1), some (.inl a2)] [] (f_M_way a0 a1 a2 μ)
  unfold f_M_way
  refine J_aload_n zd_M_way_0 rfl ?_
  refine J_gR zd_M_way_1 zf_M_16 rfl (fun r1 => ?_)
  refine J_aload_n zd_M_way_4 rfl ?_
  refine J_gR zd_M_way_5 zf_M_44 rfl (fun r2 => ?_)
  refine J_iload_n zd_M_way_8 rfl ?_
  refine J_aI zd_M_way_9 (fun v3 => ?_)
  refine J_aI zd_M_way_10 (fun v4 => ?_)
  refine J_aload_n zd_M_way_11 rfl ?_
  refine J_gR zd_M_way_12 zf_M_56 rfl (fun r5 => ?_)
  refine J_iload_n zd_M_way_15 rfl ?_
  refine J_aI zd_M_way_16 (fun v6 => ?_)
  refine J_isub zd_M_way_17 ?_
  refine J_callSi (as := [.inl _]) zd_M_way_18 zm_M_size ⟨Nat.le_of_ble_eq_true rfl, Nat.le_of_ble_eq_true rfl⟩ zw_956 zw_957 rfl (Nat.le_of_ble_eq_true rfl) ⟨Nat.le_of_ble_eq_true rfl, Nat.le_of_ble_eq_true rfl⟩ rfl rfl (c_M_size E _ _) (fun v8 μ7 => ?_)
  refine J_aload_n zd_M_way_21 rfl ?_
  refine J_gR zd_M_way_22 zf_M_59 rfl (fun r9 => ?_)
  refine J_iload_n zd_M_way_25 rfl ?_
  refine J_aI zd_M_way_26 (fun v10 => ?_)
  refine J_iadd zd_M_way_27 ?_
  exact J_iret zd_M_way_28 rfl (Nat.le_of_ble_eq_true rfl) (Nat.le_of_ble_eq_true rfl)
def f_M_up (a0 : Int32) (a1 : Int32) (μ : Mem) : Option (LV × Mem) := idv ((a0 + a1) - 1) a1 (fun v1 => (some (.inl v1, μ)))
set_option maxRecDepth 20000 in
theorem c_M_up (E : EV) (a0 : Int32) (a1 : Int32) (μ : Mem) : Ct E I_M_up (rmk 1 0 0) [.inl a0, .inl a1] μ (f_M_up a0 a1 μ) := by
  refine Ct.of (k := 0) (by decide +kernel) rfl ?_
  show J E I_M_up (rmk 1 0 0) (QR E I_M_up (rmk 1 0 0)) 0 0 μ 0 [some (.inl a0), some (.inl a1)] [] (f_M_up a0 a1 μ)
  unfold f_M_up
  refine J_iload_n zd_M_up_0 rfl ?_
  refine J_iload_n zd_M_up_1 rfl ?_
  refine J_iadd zd_M_up_2 ?_
  refine J_iconst (v := 1) zd_M_up_3 (by decide) ?_
  refine J_isub zd_M_up_4 ?_
  refine J_iload_n zd_M_up_5 rfl ?_
  refine J_idiv zd_M_up_6 (fun v1 => ?_)
  exact J_iret zd_M_up_7 rfl (Nat.le_of_ble_eq_true rfl) (Nat.le_of_ble_eq_true rfl)
def f_M_can (a0 : Nat) (a1 : Int32) (a2 : Int32) (μ : Mem) : Option (LV × Mem) := cV 10 a0 μ (bI (f_M_speedFor a0 a1 a2 μ) (fun v2 μ1 => (if v2 ≤ 0 then (some (.inl 0, μ1)) else cV 10 a0 μ1 (bI (f_M_way a0 a1 a2 μ1) (fun v4 μ3 => bI (f_M_up (2 * v4) v2 μ3) (fun v6 μ5 => gR 10 a0 17 μ5 (fun r7 => aI r7 a1 μ5 (fun v8 => (if v8 < v6 then (some (.inl 0, μ5)) else (some (.inl 1, μ5)))))))))))
set_option maxRecDepth 20000 in
theorem c_M_can (E : EV) (a0 : Nat) (a1 : Int32) (a2 : Int32) (μ : Mem) : Ct E I_M_can (rmk 3 0 0) [.inr a0, .inl a1, .inl a2] μ (f_M_can a0 a1 a2 μ) := by
  refine Ct.of (k := 1) (by decide +kernel) rfl ?_
  show J E I_M_can (rmk 3 0 0) (QR E I_M_can (rmk 3 0 0)) 0 0 μ 0 [some (.inr a0), some (.inl a1), some (.inl a2), none] [] (f_M_can a0 a1 a2 μ)
  unfold f_M_can
  refine J_aload_n zd_M_can_0 rfl ?_
  refine J_iload_n zd_M_can_1 rfl ?_
  refine J_iload_n zd_M_can_2 rfl ?_
  refine J_callVi (ci := 10) (as := [.inl _, .inl _]) zd_M_can_3 zm_M_speedFor ⟨Nat.le_of_ble_eq_true rfl, Nat.le_of_ble_eq_true rfl⟩ zw_948 zw_950 zs_36 (by decide) rfl rfl (Nat.le_of_ble_eq_true rfl) ⟨Nat.le_of_ble_eq_true rfl, Nat.le_of_ble_eq_true rfl⟩ rfl rfl (c_M_speedFor E _ _ _ _) (fun v2 μ1 => ?_)
  refine J_istore_n (lv' := [some _, some _, some _, some _]) zd_M_can_6 (Nat.le_of_ble_eq_true rfl) rfl ?_
  refine J_iload_n zd_M_can_7 rfl ?_
  refine J_if_le (tgt := 36) zd_M_can_8 rfl ?_ ?_
  · refine J_iconst (v := 0) zd_M_can_36 (by decide) ?_
    exact J_zret zd_M_can_37 rfl rfl (Nat.le_of_ble_eq_true rfl) (Nat.le_of_ble_eq_true rfl)
  · refine J_iconst (v := 2) zd_M_can_11 (by decide) ?_
    refine J_aload_n zd_M_can_12 rfl ?_
    refine J_iload_n zd_M_can_13 rfl ?_
    refine J_iload_n zd_M_can_14 rfl ?_
    refine J_callVi (ci := 10) (as := [.inl _, .inl _]) zd_M_can_15 zm_M_way ⟨Nat.le_of_ble_eq_true rfl, Nat.le_of_ble_eq_true rfl⟩ zw_952 zw_954 zs_37 (by decide) rfl rfl (Nat.le_of_ble_eq_true rfl) ⟨Nat.le_of_ble_eq_true rfl, Nat.le_of_ble_eq_true rfl⟩ rfl rfl (c_M_way E _ _ _ _) (fun v4 μ3 => ?_)
    refine J_imul zd_M_can_18 ?_
    refine J_iload_n zd_M_can_19 rfl ?_
    refine J_callSi (as := [.inl _, .inl _]) zd_M_can_20 zm_M_up ⟨Nat.le_of_ble_eq_true rfl, Nat.le_of_ble_eq_true rfl⟩ zw_959 zw_960 rfl (Nat.le_of_ble_eq_true rfl) ⟨Nat.le_of_ble_eq_true rfl, Nat.le_of_ble_eq_true rfl⟩ rfl rfl (c_M_up E _ _ _) (fun v6 μ5 => ?_)
    refine J_aload_n zd_M_can_23 rfl ?_
    refine J_gR zd_M_can_24 zf_M_47 rfl (fun r7 => ?_)
    refine J_iload_n zd_M_can_27 rfl ?_
    refine J_aI zd_M_can_28 (fun v8 => ?_)
    refine J_icmp_gt (tgt := 36) zd_M_can_29 rfl ?_ ?_
    · refine J_iconst (v := 0) zd_M_can_36 (by decide) ?_
      exact J_zret zd_M_can_37 rfl rfl (Nat.le_of_ble_eq_true rfl) (Nat.le_of_ble_eq_true rfl)
    · refine J_iconst (v := 1) zd_M_can_32 (by decide) ?_
      refine J_goto (tgt := 37) zd_M_can_33 rfl ?_
      exact J_zret zd_M_can_37 rfl rfl (Nat.le_of_ble_eq_true rfl) (Nat.le_of_ble_eq_true rfl)
def k_M_launch_51 (c75 : Int32 → Int32 → Mem → Option (LV × Mem)) (a0 : Nat) (a1 : Int32) (a3 : Int32) : Nat → Int32 → Mem → Option (LV × Mem)
  | 0, _, _ => none
  | n + 1, a4, μ => (if 48 < a4 then (some (.inl (-9), μ)) else gR 10 a0 16 μ (fun r1 => aI r1 a1 μ (fun v2 => cV 10 a0 μ (bI (f_M_isOpen a0 v2 (a3 + a4) μ) (fun v4 μ3 => (if v4 = 0 then (k_M_launch_51 c75 a0 a1 a3 n (a4 + 1) μ3) else (c75 a3 a4 μ3)))))))
set_option maxRecDepth 20000 in
theorem j_M_launch_51 (E : EV) (a0 : Nat) (a1 : Int32) (a3 : Int32) {c75 : Int32 → Int32 → Mem → Option (LV × Mem)} (h75 : ∀ (b3 : Int32) (b4 : Int32)  (μ : Mem), J E I_M_launch (rmk 3 0 0) (QR E I_M_launch (rmk 3 0 0)) 0 0 μ 75 [none, none, none, some (.inl b3), some (.inl b4)] [] (c75 b3 b4 μ)) : ∀ (n : Nat) (a4 : Int32) (μ : Mem), J E I_M_launch (rmk 3 0 0) (QR E I_M_launch (rmk 3 0 0)) 0 0 μ 51 [some (.inr a0), some (.inl a1), none, some (.inl a3), some (.inl a4)] [] (k_M_launch_51 c75 a0 a1 a3 n a4 μ)
  | 0, _, _ => J_none
  | n + 1, a4, μ => by
    show J E I_M_launch (rmk 3 0 0) (QR E I_M_launch (rmk 3 0 0)) 0 0 μ 51 [some (.inr a0), some (.inl a1), none, some (.inl a3), some (.inl a4)] [] ((if 48 < a4 then (some (.inl (-9), μ)) else gR 10 a0 16 μ (fun r1 => aI r1 a1 μ (fun v2 => cV 10 a0 μ (bI (f_M_isOpen a0 v2 (a3 + a4) μ) (fun v4 μ3 => (if v4 = 0 then (k_M_launch_51 c75 a0 a1 a3 n (a4 + 1) μ3) else (c75 a3 a4 μ3))))))))
    refine J_iload zd_M_launch_51 rfl ?_
    refine J_bipush (v := 48) zd_M_launch_53 (by decide) ?_
    refine J_icmp_gt (tgt := 89) zd_M_launch_55 rfl ?_ ?_
    · refine J_bipush (v := (-9)) zd_M_launch_89 (by decide) ?_
      exact J_iret zd_M_launch_91 rfl (Nat.le_of_ble_eq_true rfl) (Nat.le_of_ble_eq_true rfl)
    · refine J_aload_n zd_M_launch_58 rfl ?_
      refine J_aload_n zd_M_launch_59 rfl ?_
      refine J_gR zd_M_launch_60 zf_M_44 rfl (fun r1 => ?_)
      refine J_iload_n zd_M_launch_63 rfl ?_
      refine J_aI zd_M_launch_64 (fun v2 => ?_)
      refine J_iload_n zd_M_launch_65 rfl ?_
      refine J_iload zd_M_launch_66 rfl ?_
      refine J_iadd zd_M_launch_68 ?_
      refine J_callVi (ci := 10) (as := [.inl _, .inl _]) zd_M_launch_69 zm_M_isOpen ⟨Nat.le_of_ble_eq_true rfl, Nat.le_of_ble_eq_true rfl⟩ zw_899 zw_901 zs_30 (by decide) rfl rfl (Nat.le_of_ble_eq_true rfl) ⟨Nat.le_of_ble_eq_true rfl, Nat.le_of_ble_eq_true rfl⟩ rfl rfl (c_M_isOpen E _ _ _ _) (fun v4 μ3 => ?_)
      refine J_if_eq (tgt := 83) zd_M_launch_72 rfl ?_ ?_
      · refine J_iinc (v := _ + 1) (lv' := [some _, some _, none, some _, some _]) zd_M_launch_83 (Nat.le_of_ble_eq_true rfl) rfl (by rfl) rfl ?_
        refine J_goto (tgt := 51) zd_M_launch_86 rfl ?_
        refine J_wid (k := 0) (n := 0) (Nat.le_of_ble_eq_true rfl) (Nat.le_of_ble_eq_true rfl) ?_
        refine J_keep [true, true, false, true, true] rfl ?_
        exact j_M_launch_51 E a0 a1 a3 h75 n _ _
      · refine J_wid (k := 0) (n := 0) (Nat.le_of_ble_eq_true rfl) (Nat.le_of_ble_eq_true rfl) ?_
        refine J_keep [false, false, false, true, true] rfl ?_
        exact h75 _ _ _
def b_M_launch_75  (a3 : Int32) (a4 : Int32)  (μ : Mem) : Option (LV × Mem) := (some (.inl (60 * (a3 + a4)), μ))
set_option maxRecDepth 20000 in
theorem j_M_launch_75 (E : EV) (a3 : Int32) (a4 : Int32)  (μ : Mem)  : J E I_M_launch (rmk 3 0 0) (QR E I_M_launch (rmk 3 0 0)) 0 0 μ 75 [none, none, none, some (.inl a3), some (.inl a4)] [] (b_M_launch_75 a3 a4 μ) := by
  unfold b_M_launch_75
  refine J_bipush (v := 60) zd_M_launch_75 (by decide) ?_
  refine J_iload_n zd_M_launch_77 rfl ?_
  refine J_iload zd_M_launch_78 rfl ?_
  refine J_iadd zd_M_launch_80 ?_
  refine J_imul zd_M_launch_81 ?_
  exact J_iret zd_M_launch_82 rfl (Nat.le_of_ble_eq_true rfl) (Nat.le_of_ble_eq_true rfl)
def b_M_launch_21  (a0 : Nat) (a1 : Int32) (s0 : Int32) (μ : Mem) : Option (LV × Mem) := gI 10 a0 6 μ (fun v5 => nm (s0 + v5) (fun v6 => nm (v6 / 60) (fun v7 => gR 10 a0 16 μ (fun r8 => aI r8 a1 μ (fun v9 => cV 10 a0 μ (bI (f_M_isOpen a0 v9 v7 μ) (fun v11 μ10 => (if v11 = 0 then (k_M_launch_51 (fun b3 b4 m_ => b_M_launch_75 b3 b4 m_) a0 a1 v7 120000 1 μ10) else (some (.inl v6, μ10))))))))))
set_option maxRecDepth 20000 in
theorem j_M_launch_21 (E : EV) (a0 : Nat) (a1 : Int32) (s0 : Int32) (μ : Mem)  : J E I_M_launch (rmk 3 0 0) (QR E I_M_launch (rmk 3 0 0)) 0 0 μ 21 [some (.inr a0), some (.inl a1), none, none, none] [.inl s0] (b_M_launch_21 a0 a1 s0 μ) := by
  unfold b_M_launch_21
  refine J_aload_n zd_M_launch_21 rfl ?_
  refine J_gI zd_M_launch_22 zf_M_13 rfl (fun v5 => ?_)
  refine J_iadd zd_M_launch_25 ?_
  refine J_nm (fun v6 => ?_)
  refine J_istore_n (lv' := [some _, some _, some _, none, none]) zd_M_launch_26 (Nat.le_of_ble_eq_true rfl) rfl ?_
  refine J_iload_n zd_M_launch_27 rfl ?_
  refine J_bipush (v := 60) zd_M_launch_28 (by decide) ?_
  refine J_idivL zd_M_launch_30 (by decide) ?_
  refine J_nm (fun v7 => ?_)
  refine J_istore_n (lv' := [some _, some _, some _, some _, none]) zd_M_launch_31 (Nat.le_of_ble_eq_true rfl) rfl ?_
  refine J_aload_n zd_M_launch_32 rfl ?_
  refine J_aload_n zd_M_launch_33 rfl ?_
  refine J_gR zd_M_launch_34 zf_M_44 rfl (fun r8 => ?_)
  refine J_iload_n zd_M_launch_37 rfl ?_
  refine J_aI zd_M_launch_38 (fun v9 => ?_)
  refine J_iload_n zd_M_launch_39 rfl ?_
  refine J_callVi (ci := 10) (as := [.inl _, .inl _]) zd_M_launch_40 zm_M_isOpen ⟨Nat.le_of_ble_eq_true rfl, Nat.le_of_ble_eq_true rfl⟩ zw_899 zw_901 zs_30 (by decide) rfl rfl (Nat.le_of_ble_eq_true rfl) ⟨Nat.le_of_ble_eq_true rfl, Nat.le_of_ble_eq_true rfl⟩ rfl rfl (c_M_isOpen E _ _ _ _) (fun v11 μ10 => ?_)
  refine J_if_eq (tgt := 48) zd_M_launch_43 rfl ?_ ?_
  · refine J_iconst (v := 1) zd_M_launch_48 (by decide) ?_
    refine J_istore (lv' := [some _, some _, some _, some _, some _]) zd_M_launch_49 (Nat.le_of_ble_eq_true rfl) rfl ?_
    refine J_wid (k := 0) (n := 0) (Nat.le_of_ble_eq_true rfl) (Nat.le_of_ble_eq_true rfl) ?_
    refine J_keep [true, true, false, true, true] rfl ?_
    exact j_M_launch_51 E _ _ _ (fun b3 b4 m_ => j_M_launch_75 E b3 b4 m_) _ _ _
  · refine J_iload_n zd_M_launch_46 rfl ?_
    exact J_iret zd_M_launch_47 rfl (Nat.le_of_ble_eq_true rfl) (Nat.le_of_ble_eq_true rfl)
def f_M_launch (a0 : Nat) (a1 : Int32) (μ : Mem) : Option (LV × Mem) := cV 10 a0 μ (bI (f_M_isAway a0 a1 μ) (fun v13 μ12 => (if v13 = 0 then gI 10 a0 0 μ12 (fun v14 => (b_M_launch_21 a0 a1 v14 μ12)) else gR 10 a0 18 μ12 (fun r15 => aI r15 a1 μ12 (fun v16 => (b_M_launch_21 a0 a1 v16 μ12))))))
set_option maxRecDepth 20000 in
theorem c_M_launch (E : EV) (a0 : Nat) (a1 : Int32) (μ : Mem) : Ct E I_M_launch (rmk 3 0 0) [.inr a0, .inl a1] μ (f_M_launch a0 a1 μ) := by
  refine Ct.of (k := 3) (by decide +kernel) rfl ?_
  show J E I_M_launch (rmk 3 0 0) (QR E I_M_launch (rmk 3 0 0)) 0 0 μ 0 [some (.inr a0), some (.inl a1), none, none, none] [] (f_M_launch a0 a1 μ)
  unfold f_M_launch
  refine J_aload_n zd_M_launch_0 rfl ?_
  refine J_iload_n zd_M_launch_1 rfl ?_
  refine J_callVi (ci := 10) (as := [.inl _]) zd_M_launch_2 zm_M_isAway ⟨Nat.le_of_ble_eq_true rfl, Nat.le_of_ble_eq_true rfl⟩ zw_928 zw_930 zs_33 (by decide) rfl rfl (Nat.le_of_ble_eq_true rfl) ⟨Nat.le_of_ble_eq_true rfl, Nat.le_of_ble_eq_true rfl⟩ rfl rfl (c_M_isAway E _ _ _) (fun v13 μ12 => ?_)
  refine J_if_eq (tgt := 17) zd_M_launch_5 rfl ?_ ?_
  · refine J_aload_n zd_M_launch_17 rfl ?_
    refine J_gI zd_M_launch_18 zf_M_119 rfl (fun v14 => ?_)
    refine J_wid (k := 0) (n := 0) (Nat.le_of_ble_eq_true rfl) (Nat.le_of_ble_eq_true rfl) ?_
    refine J_keep [true, true, false, false, false] rfl ?_
    exact j_M_launch_21 E _ _ _ _
  · refine J_aload_n zd_M_launch_8 rfl ?_
    refine J_gR zd_M_launch_9 zf_M_50 rfl (fun r15 => ?_)
    refine J_iload_n zd_M_launch_12 rfl ?_
    refine J_aI zd_M_launch_13 (fun v16 => ?_)
    refine J_goto (tgt := 21) zd_M_launch_14 rfl ?_
    refine J_wid (k := 0) (n := 0) (Nat.le_of_ble_eq_true rfl) (Nat.le_of_ble_eq_true rfl) ?_
    refine J_keep [true, true, false, false, false] rfl ?_
    exact j_M_launch_21 E _ _ _ _
def f_M_reached (a0 : Nat) (a1 : Int32) (a2 : Int32) (μ : Mem) : Option (LV × Mem) := cV 10 a0 μ (bI (f_M_can a0 a1 a2 μ) (fun v2 μ1 => (if v2 = 0 then (some (.inl (-9), μ1)) else cV 10 a0 μ1 (bI (f_M_launch a0 a1 μ1) (fun v4 μ3 => (if v4 = (-9) then (some (.inl (-9), μ3)) else cV 10 a0 μ3 (bI (f_M_way a0 a1 a2 μ3) (fun v6 μ5 => cV 10 a0 μ5 (bI (f_M_speedFor a0 a1 a2 μ5) (fun v8 μ7 => bI (f_M_up (60 * v6) v8 μ7) (fun v10 μ9 => (some (.inl (v4 + v10), μ9)))))))))))))
set_option maxRecDepth 20000 in
theorem c_M_reached (E : EV) (a0 : Nat) (a1 : Int32) (a2 : Int32) (μ : Mem) : Ct E I_M_reached (rmk 4 0 0) [.inr a0, .inl a1, .inl a2] μ (f_M_reached a0 a1 a2 μ) := by
  refine Ct.of (k := 1) (by decide +kernel) rfl ?_
  show J E I_M_reached (rmk 4 0 0) (QR E I_M_reached (rmk 4 0 0)) 0 0 μ 0 [some (.inr a0), some (.inl a1), some (.inl a2), none] [] (f_M_reached a0 a1 a2 μ)
  unfold f_M_reached
  refine J_aload_n zd_M_reached_0 rfl ?_
  refine J_iload_n zd_M_reached_1 rfl ?_
  refine J_iload_n zd_M_reached_2 rfl ?_
  refine J_callVi (ci := 10) (as := [.inl _, .inl _]) zd_M_reached_3 zm_M_can ⟨Nat.le_of_ble_eq_true rfl, Nat.le_of_ble_eq_true rfl⟩ zw_944 zw_946 zs_35 (by decide) rfl rfl (Nat.le_of_ble_eq_true rfl) ⟨Nat.le_of_ble_eq_true rfl, Nat.le_of_ble_eq_true rfl⟩ rfl rfl (c_M_can E _ _ _ _) (fun v2 μ1 => ?_)
  refine J_if_ne (tgt := 12) zd_M_reached_6 rfl ?_ ?_
  · refine J_aload_n zd_M_reached_12 rfl ?_
    refine J_iload_n zd_M_reached_13 rfl ?_
    refine J_callVi (ci := 10) (as := [.inl _]) zd_M_reached_14 zm_M_launch ⟨Nat.le_of_ble_eq_true rfl, Nat.le_of_ble_eq_true rfl⟩ zw_966 zw_968 zs_39 (by decide) rfl rfl (Nat.le_of_ble_eq_true rfl) ⟨Nat.le_of_ble_eq_true rfl, Nat.le_of_ble_eq_true rfl⟩ rfl rfl (c_M_launch E _ _ _) (fun v4 μ3 => ?_)
    refine J_istore_n (lv' := [some _, some _, some _, some _]) zd_M_reached_17 (Nat.le_of_ble_eq_true rfl) rfl ?_
    refine J_iload_n zd_M_reached_18 rfl ?_
    refine J_bipush (v := (-9)) zd_M_reached_19 (by decide) ?_
    refine J_icmp_ne (tgt := 29) zd_M_reached_21 rfl ?_ ?_
    · refine J_iload_n zd_M_reached_29 rfl ?_
      refine J_bipush (v := 60) zd_M_reached_30 (by decide) ?_
      refine J_aload_n zd_M_reached_32 rfl ?_
      refine J_iload_n zd_M_reached_33 rfl ?_
      refine J_iload_n zd_M_reached_34 rfl ?_
      refine J_callVi (ci := 10) (as := [.inl _, .inl _]) zd_M_reached_35 zm_M_way ⟨Nat.le_of_ble_eq_true rfl, Nat.le_of_ble_eq_true rfl⟩ zw_952 zw_954 zs_37 (by decide) rfl rfl (Nat.le_of_ble_eq_true rfl) ⟨Nat.le_of_ble_eq_true rfl, Nat.le_of_ble_eq_true rfl⟩ rfl rfl (c_M_way E _ _ _ _) (fun v6 μ5 => ?_)
      refine J_imul zd_M_reached_38 ?_
      refine J_aload_n zd_M_reached_39 rfl ?_
      refine J_iload_n zd_M_reached_40 rfl ?_
      refine J_iload_n zd_M_reached_41 rfl ?_
      refine J_callVi (ci := 10) (as := [.inl _, .inl _]) zd_M_reached_42 zm_M_speedFor ⟨Nat.le_of_ble_eq_true rfl, Nat.le_of_ble_eq_true rfl⟩ zw_948 zw_950 zs_36 (by decide) rfl rfl (Nat.le_of_ble_eq_true rfl) ⟨Nat.le_of_ble_eq_true rfl, Nat.le_of_ble_eq_true rfl⟩ rfl rfl (c_M_speedFor E _ _ _ _) (fun v8 μ7 => ?_)
      refine J_callSi (as := [.inl _, .inl _]) zd_M_reached_45 zm_M_up ⟨Nat.le_of_ble_eq_true rfl, Nat.le_of_ble_eq_true rfl⟩ zw_959 zw_960 rfl (Nat.le_of_ble_eq_true rfl) ⟨Nat.le_of_ble_eq_true rfl, Nat.le_of_ble_eq_true rfl⟩ rfl rfl (c_M_up E _ _ _) (fun v10 μ9 => ?_)
      refine J_iadd zd_M_reached_48 ?_
      exact J_iret zd_M_reached_49 rfl (Nat.le_of_ble_eq_true rfl) (Nat.le_of_ble_eq_true rfl)
    · refine J_bipush (v := (-9)) zd_M_reached_24 (by decide) ?_
      refine J_goto (tgt := 49) zd_M_reached_26 rfl ?_
      exact J_iret zd_M_reached_49 rfl (Nat.le_of_ble_eq_true rfl) (Nat.le_of_ble_eq_true rfl)
  · refine J_bipush (v := (-9)) zd_M_reached_9 (by decide) ?_
    exact J_iret zd_M_reached_11 rfl (Nat.le_of_ble_eq_true rfl) (Nat.le_of_ble_eq_true rfl)
def b_M_reach_16  (a0 : Nat)  (μ : Mem) : Option (LV × Mem) := cV 10 a0 μ (bI (f_M_no a0 (-1) μ) (fun v2 μ1 => (some (.inl v2, μ1))))
set_option maxRecDepth 20000 in
theorem j_M_reach_16 (E : EV) (a0 : Nat)  (μ : Mem)  : J E I_M_reach (rmk 5 0 0) (QR E I_M_reach (rmk 5 0 0)) 0 0 μ 16 [some (.inr a0), none, none, none] [] (b_M_reach_16 a0 μ) := by
  unfold b_M_reach_16
  refine J_aload_n zd_M_reach_16 rfl ?_
  refine J_iconst (v := (-1)) zd_M_reach_17 (by decide) ?_
  refine J_callVi (ci := 10) (as := [.inl _]) zd_M_reach_18 zm_M_no ⟨Nat.le_of_ble_eq_true rfl, Nat.le_of_ble_eq_true rfl⟩ zw_821 zw_823 zs_22 (by decide) rfl rfl (Nat.le_of_ble_eq_true rfl) ⟨Nat.le_of_ble_eq_true rfl, Nat.le_of_ble_eq_true rfl⟩ rfl rfl (c_M_no E _ _ _) (fun v2 μ1 => ?_)
  exact J_iret zd_M_reach_21 rfl (Nat.le_of_ble_eq_true rfl) (Nat.le_of_ble_eq_true rfl)
def b_M_reach_31  (a0 : Nat)  (μ : Mem) : Option (LV × Mem) := cV 10 a0 μ (bI (f_M_no a0 (-2) μ) (fun v4 μ3 => (some (.inl v4, μ3))))
set_option maxRecDepth 20000 in
theorem j_M_reach_31 (E : EV) (a0 : Nat)  (μ : Mem)  : J E I_M_reach (rmk 5 0 0) (QR E I_M_reach (rmk 5 0 0)) 0 0 μ 31 [some (.inr a0), none, none, none] [] (b_M_reach_31 a0 μ) := by
  unfold b_M_reach_31
  refine J_aload_n zd_M_reach_31 rfl ?_
  refine J_bipush (v := (-2)) zd_M_reach_32 (by decide) ?_
  refine J_callVi (ci := 10) (as := [.inl _]) zd_M_reach_34 zm_M_no ⟨Nat.le_of_ble_eq_true rfl, Nat.le_of_ble_eq_true rfl⟩ zw_821 zw_823 zs_22 (by decide) rfl rfl (Nat.le_of_ble_eq_true rfl) ⟨Nat.le_of_ble_eq_true rfl, Nat.le_of_ble_eq_true rfl⟩ rfl rfl (c_M_no E _ _ _) (fun v4 μ3 => ?_)
  exact J_iret zd_M_reach_37 rfl (Nat.le_of_ble_eq_true rfl) (Nat.le_of_ble_eq_true rfl)
def f_M_reach (a0 : Nat) (a1 : Int32) (a2 : Int32) (a3 : Int32) (μ : Mem) : Option (LV × Mem) := cV 10 a0 μ (bI (f_M_isBoat a0 a1 μ) (fun v6 μ5 => (if v6 = 0 then (b_M_reach_16 a0 μ5) else cV 10 a0 μ5 (bI (f_M_isCall a0 a2 μ5) (fun v8 μ7 => (if v8 = 0 then (b_M_reach_16 a0 μ7) else (if a3 < 0 then (b_M_reach_31 a0 μ7) else (if a3 ≤ 2 then (if a3 = 2 then cV 10 a0 μ7 (bI (f_M_can a0 a1 a2 μ7) (fun v16 μ15 => (if v16 = 0 then (some (.inl 0, μ15)) else (some (.inl 1, μ15))))) else (if a3 = 1 then cV 10 a0 μ7 (bI (f_M_reached a0 a1 a2 μ7) (fun v14 μ13 => (some (.inl v14, μ13)))) else cV 10 a0 μ7 (bI (f_M_can a0 a1 a2 μ7) (fun v10 μ9 => (if v10 = 0 then (some (.inl (-9), μ9)) else cV 10 a0 μ9 (bI (f_M_launch a0 a1 μ9) (fun v12 μ11 => (some (.inl v12, μ11))))))))) else (b_M_reach_31 a0 μ7)))))))))
set_option maxRecDepth 20000 in
theorem c_M_reach (E : EV) (a0 : Nat) (a1 : Int32) (a2 : Int32) (a3 : Int32) (μ : Mem) : Ct E I_M_reach (rmk 5 0 0) [.inr a0, .inl a1, .inl a2, .inl a3] μ (f_M_reach a0 a1 a2 a3 μ) := by
  refine Ct.of (k := 0) (by decide +kernel) rfl ?_
  show J E I_M_reach (rmk 5 0 0) (QR E I_M_reach (rmk 5 0 0)) 0 0 μ 0 [some (.inr a0), some (.inl a1), some (.inl a2), some (.inl a3)] [] (f_M_reach a0 a1 a2 a3 μ)
  unfold f_M_reach
  refine J_aload_n zd_M_reach_0 rfl ?_
  refine J_iload_n zd_M_reach_1 rfl ?_
  refine J_callVi (ci := 10) (as := [.inl _]) zd_M_reach_2 zm_M_isBoat ⟨Nat.le_of_ble_eq_true rfl, Nat.le_of_ble_eq_true rfl⟩ zw_920 zw_922 zs_32 (by decide) rfl rfl (Nat.le_of_ble_eq_true rfl) ⟨Nat.le_of_ble_eq_true rfl, Nat.le_of_ble_eq_true rfl⟩ rfl rfl (c_M_isBoat E _ _ _) (fun v6 μ5 => ?_)
  refine J_if_eq (tgt := 16) zd_M_reach_5 rfl ?_ ?_
  · refine J_wid (k := 0) (n := 0) (Nat.le_of_ble_eq_true rfl) (Nat.le_of_ble_eq_true rfl) ?_
    refine J_keep [true, false, false, false] rfl ?_
    exact j_M_reach_16 E _ _
  · refine J_aload_n zd_M_reach_8 rfl ?_
    refine J_iload_n zd_M_reach_9 rfl ?_
    refine J_callVi (ci := 10) (as := [.inl _]) zd_M_reach_10 zm_M_isCall ⟨Nat.le_of_ble_eq_true rfl, Nat.le_of_ble_eq_true rfl⟩ zw_940 zw_942 zs_34 (by decide) rfl rfl (Nat.le_of_ble_eq_true rfl) ⟨Nat.le_of_ble_eq_true rfl, Nat.le_of_ble_eq_true rfl⟩ rfl rfl (c_M_isCall E _ _ _) (fun v8 μ7 => ?_)
    refine J_if_ne (tgt := 22) zd_M_reach_13 rfl ?_ ?_
    · refine J_iload_n zd_M_reach_22 rfl ?_
      refine J_if_lt (tgt := 31) zd_M_reach_23 rfl ?_ ?_
      · refine J_wid (k := 0) (n := 0) (Nat.le_of_ble_eq_true rfl) (Nat.le_of_ble_eq_true rfl) ?_
        refine J_keep [true, false, false, false] rfl ?_
        exact j_M_reach_31 E _ _
      · refine J_iload_n zd_M_reach_26 rfl ?_
        refine J_iconst (v := 2) zd_M_reach_27 (by decide) ?_
        refine J_icmp_le (tgt := 38) zd_M_reach_28 rfl ?_ ?_
        · refine J_iload_n zd_M_reach_38 rfl ?_
          refine J_iconst (v := 2) zd_M_reach_39 (by decide) ?_
          refine J_icmp_ne (tgt := 58) zd_M_reach_40 rfl ?_ ?_
          · refine J_iload_n zd_M_reach_58 rfl ?_
            refine J_iconst (v := 1) zd_M_reach_59 (by decide) ?_
            refine J_icmp_ne (tgt := 72) zd_M_reach_60 rfl ?_ ?_
            · refine J_aload_n zd_M_reach_72 rfl ?_
              refine J_iload_n zd_M_reach_73 rfl ?_
              refine J_iload_n zd_M_reach_74 rfl ?_
              refine J_callVi (ci := 10) (as := [.inl _, .inl _]) zd_M_reach_75 zm_M_can ⟨Nat.le_of_ble_eq_true rfl, Nat.le_of_ble_eq_true rfl⟩ zw_944 zw_946 zs_35 (by decide) rfl rfl (Nat.le_of_ble_eq_true rfl) ⟨Nat.le_of_ble_eq_true rfl, Nat.le_of_ble_eq_true rfl⟩ rfl rfl (c_M_can E _ _ _ _) (fun v10 μ9 => ?_)
              refine J_if_eq (tgt := 89) zd_M_reach_78 rfl ?_ ?_
              · refine J_bipush (v := (-9)) zd_M_reach_89 (by decide) ?_
                exact J_iret zd_M_reach_91 rfl (Nat.le_of_ble_eq_true rfl) (Nat.le_of_ble_eq_true rfl)
              · refine J_aload_n zd_M_reach_81 rfl ?_
                refine J_iload_n zd_M_reach_82 rfl ?_
                refine J_callVi (ci := 10) (as := [.inl _]) zd_M_reach_83 zm_M_launch ⟨Nat.le_of_ble_eq_true rfl, Nat.le_of_ble_eq_true rfl⟩ zw_966 zw_968 zs_39 (by decide) rfl rfl (Nat.le_of_ble_eq_true rfl) ⟨Nat.le_of_ble_eq_true rfl, Nat.le_of_ble_eq_true rfl⟩ rfl rfl (c_M_launch E _ _ _) (fun v12 μ11 => ?_)
                refine J_goto (tgt := 91) zd_M_reach_86 rfl ?_
                exact J_iret zd_M_reach_91 rfl (Nat.le_of_ble_eq_true rfl) (Nat.le_of_ble_eq_true rfl)
            · refine J_aload_n zd_M_reach_63 rfl ?_
              refine J_iload_n zd_M_reach_64 rfl ?_
              refine J_iload_n zd_M_reach_65 rfl ?_
              refine J_callVi (ci := 10) (as := [.inl _, .inl _]) zd_M_reach_66 zm_M_reached ⟨Nat.le_of_ble_eq_true rfl, Nat.le_of_ble_eq_true rfl⟩ zw_962 zw_964 zs_38 (by decide) rfl rfl (Nat.le_of_ble_eq_true rfl) ⟨Nat.le_of_ble_eq_true rfl, Nat.le_of_ble_eq_true rfl⟩ rfl rfl (c_M_reached E _ _ _ _) (fun v14 μ13 => ?_)
              refine J_goto (tgt := 91) zd_M_reach_69 rfl ?_
              exact J_iret zd_M_reach_91 rfl (Nat.le_of_ble_eq_true rfl) (Nat.le_of_ble_eq_true rfl)
          · refine J_aload_n zd_M_reach_43 rfl ?_
            refine J_iload_n zd_M_reach_44 rfl ?_
            refine J_iload_n zd_M_reach_45 rfl ?_
            refine J_callVi (ci := 10) (as := [.inl _, .inl _]) zd_M_reach_46 zm_M_can ⟨Nat.le_of_ble_eq_true rfl, Nat.le_of_ble_eq_true rfl⟩ zw_944 zw_946 zs_35 (by decide) rfl rfl (Nat.le_of_ble_eq_true rfl) ⟨Nat.le_of_ble_eq_true rfl, Nat.le_of_ble_eq_true rfl⟩ rfl rfl (c_M_can E _ _ _ _) (fun v16 μ15 => ?_)
            refine J_if_eq (tgt := 56) zd_M_reach_49 rfl ?_ ?_
            · refine J_iconst (v := 0) zd_M_reach_56 (by decide) ?_
              exact J_iret zd_M_reach_57 rfl (Nat.le_of_ble_eq_true rfl) (Nat.le_of_ble_eq_true rfl)
            · refine J_iconst (v := 1) zd_M_reach_52 (by decide) ?_
              refine J_goto (tgt := 57) zd_M_reach_53 rfl ?_
              exact J_iret zd_M_reach_57 rfl (Nat.le_of_ble_eq_true rfl) (Nat.le_of_ble_eq_true rfl)
        · refine J_wid (k := 0) (n := 0) (Nat.le_of_ble_eq_true rfl) (Nat.le_of_ble_eq_true rfl) ?_
          refine J_keep [true, false, false, false] rfl ?_
          exact j_M_reach_31 E _ _
    · refine J_wid (k := 0) (n := 0) (Nat.le_of_ble_eq_true rfl) (Nat.le_of_ble_eq_true rfl) ?_
      refine J_keep [true, false, false, false] rfl ?_
      exact j_M_reach_16 E _ _
def b_M_first_61 (c19 : Int32 → Int32 → Mem → Option (LV × Mem)) (a0 : Nat) (a1 : Int32) (a2 : Int32) (a3 : Int32)  (μ : Mem) : Option (LV × Mem) := (c19 a2 (a3 + 1) μ)
set_option maxRecDepth 20000 in
theorem j_M_first_61 (E : EV) (a0 : Nat) (a1 : Int32) (a2 : Int32) (a3 : Int32)  (μ : Mem) {c19 : Int32 → Int32 → Mem → Option (LV × Mem)} (h19 : ∀ (b2 : Int32) (b3 : Int32)  (μ : Mem), J E I_M_first (rmk 5 0 0) (QR E I_M_first (rmk 5 0 0)) 0 0 μ 19 [some (.inr a0), some (.inl a1), some (.inl b2), some (.inl b3), none] [] (c19 b2 b3 μ)) : J E I_M_first (rmk 5 0 0) (QR E I_M_first (rmk 5 0 0)) 0 0 μ 61 [some (.inr a0), some (.inl a1), some (.inl a2), some (.inl a3), none] [] (b_M_first_61 c19 a0 a1 a2 a3 μ) := by
  unfold b_M_first_61
  refine J_iinc (v := _ + 1) (lv' := [some _, some _, some _, some _, none]) zd_M_first_61 (Nat.le_of_ble_eq_true rfl) rfl (by rfl) rfl ?_
  refine J_goto (tgt := 19) zd_M_first_64 rfl ?_
  refine J_wid (k := 0) (n := 0) (Nat.le_of_ble_eq_true rfl) (Nat.le_of_ble_eq_true rfl) ?_
  refine J_keep [true, true, true, true, false] rfl ?_
  exact h19 _ _ _
def b_M_first_59 (c19 : Int32 → Int32 → Mem → Option (LV × Mem)) (a0 : Nat) (a1 : Int32) (a3 : Int32)  (μ : Mem) : Option (LV × Mem) := (b_M_first_61 c19 a0 a1 a3 a3 μ)
set_option maxRecDepth 20000 in
theorem j_M_first_59 (E : EV) (a0 : Nat) (a1 : Int32) (a3 : Int32)  (μ : Mem) {c19 : Int32 → Int32 → Mem → Option (LV × Mem)} (h19 : ∀ (b2 : Int32) (b3 : Int32)  (μ : Mem), J E I_M_first (rmk 5 0 0) (QR E I_M_first (rmk 5 0 0)) 0 0 μ 19 [some (.inr a0), some (.inl a1), some (.inl b2), some (.inl b3), none] [] (c19 b2 b3 μ)) : J E I_M_first (rmk 5 0 0) (QR E I_M_first (rmk 5 0 0)) 0 0 μ 59 [some (.inr a0), some (.inl a1), none, some (.inl a3), none] [] (b_M_first_59 c19 a0 a1 a3 μ) := by
  unfold b_M_first_59
  refine J_iload_n zd_M_first_59 rfl ?_
  refine J_istore_n (lv' := [some _, some _, some _, some _, none]) zd_M_first_60 (Nat.le_of_ble_eq_true rfl) rfl ?_
  refine J_wid (k := 0) (n := 0) (Nat.le_of_ble_eq_true rfl) (Nat.le_of_ble_eq_true rfl) ?_
  refine J_keep [true, true, true, true, false] rfl ?_
  exact j_M_first_61 E _ _ _ _ _ h19
def k_M_first_19  (a0 : Nat) (a1 : Int32) : Nat → Int32 → Int32 → Mem → Option (LV × Mem)
  | 0, _, _, _ => none
  | n + 1, a2, a3, μ => gI 10 a0 2 μ (fun v1 => (if v1 ≤ a3 then (some (.inl a2, μ)) else cV 10 a0 μ (bI (f_M_reached a0 a3 a1 μ) (fun v3 μ2 => (if v3 = (-9) then (b_M_first_61 (k_M_first_19 a0 a1 n) a0 a1 a2 a3 μ2) else (if a2 = (-9) then (b_M_first_59 (k_M_first_19 a0 a1 n) a0 a1 a3 μ2) else cV 10 a0 μ2 (bI (f_M_reached a0 a2 a1 μ2) (fun v5 μ4 => (if v5 ≤ v3 then (b_M_first_61 (k_M_first_19 a0 a1 n) a0 a1 a2 a3 μ4) else (b_M_first_59 (k_M_first_19 a0 a1 n) a0 a1 a3 μ4))))))))))
set_option maxRecDepth 20000 in
theorem j_M_first_19 (E : EV) (a0 : Nat) (a1 : Int32)  : ∀ (n : Nat) (a2 : Int32) (a3 : Int32) (μ : Mem), J E I_M_first (rmk 5 0 0) (QR E I_M_first (rmk 5 0 0)) 0 0 μ 19 [some (.inr a0), some (.inl a1), some (.inl a2), some (.inl a3), none] [] (k_M_first_19 a0 a1 n a2 a3 μ)
  | 0, _, _, _ => J_none
  | n + 1, a2, a3, μ => by
    show J E I_M_first (rmk 5 0 0) (QR E I_M_first (rmk 5 0 0)) 0 0 μ 19 [some (.inr a0), some (.inl a1), some (.inl a2), some (.inl a3), none] [] (gI 10 a0 2 μ (fun v1 => (if v1 ≤ a3 then (some (.inl a2, μ)) else cV 10 a0 μ (bI (f_M_reached a0 a3 a1 μ) (fun v3 μ2 => (if v3 = (-9) then (b_M_first_61 (k_M_first_19 a0 a1 n) a0 a1 a2 a3 μ2) else (if a2 = (-9) then (b_M_first_59 (k_M_first_19 a0 a1 n) a0 a1 a3 μ2) else cV 10 a0 μ2 (bI (f_M_reached a0 a2 a1 μ2) (fun v5 μ4 => (if v5 ≤ v3 then (b_M_first_61 (k_M_first_19 a0 a1 n) a0 a1 a2 a3 μ4) else (b_M_first_59 (k_M_first_19 a0 a1 n) a0 a1 a3 μ4)))))))))))
    refine J_iload_n zd_M_first_19 rfl ?_
    refine J_aload_n zd_M_first_20 rfl ?_
    refine J_gI zd_M_first_21 zf_M_113 rfl (fun v1 => ?_)
    refine J_icmp_ge (tgt := 67) zd_M_first_24 rfl ?_ ?_
    · refine J_iload_n zd_M_first_67 rfl ?_
      exact J_iret zd_M_first_68 rfl (Nat.le_of_ble_eq_true rfl) (Nat.le_of_ble_eq_true rfl)
    · refine J_aload_n zd_M_first_27 rfl ?_
      refine J_iload_n zd_M_first_28 rfl ?_
      refine J_iload_n zd_M_first_29 rfl ?_
      refine J_callVi (ci := 10) (as := [.inl _, .inl _]) zd_M_first_30 zm_M_reached ⟨Nat.le_of_ble_eq_true rfl, Nat.le_of_ble_eq_true rfl⟩ zw_962 zw_964 zs_38 (by decide) rfl rfl (Nat.le_of_ble_eq_true rfl) ⟨Nat.le_of_ble_eq_true rfl, Nat.le_of_ble_eq_true rfl⟩ rfl rfl (c_M_reached E _ _ _ _) (fun v3 μ2 => ?_)
      refine J_istore (lv' := [some _, some _, some _, some _, some _]) zd_M_first_33 (Nat.le_of_ble_eq_true rfl) rfl ?_
      refine J_iload zd_M_first_35 rfl ?_
      refine J_bipush (v := (-9)) zd_M_first_37 (by decide) ?_
      refine J_icmp_eq (tgt := 61) zd_M_first_39 rfl ?_ ?_
      · refine J_wid (k := 0) (n := 0) (Nat.le_of_ble_eq_true rfl) (Nat.le_of_ble_eq_true rfl) ?_
        refine J_keep [true, true, true, true, false] rfl ?_
        exact j_M_first_61 E _ _ _ _ _ (j_M_first_19 E a0 a1 n)
      · refine J_iload_n zd_M_first_42 rfl ?_
        refine J_bipush (v := (-9)) zd_M_first_43 (by decide) ?_
        refine J_icmp_eq (tgt := 59) zd_M_first_45 rfl ?_ ?_
        · refine J_wid (k := 0) (n := 0) (Nat.le_of_ble_eq_true rfl) (Nat.le_of_ble_eq_true rfl) ?_
          refine J_keep [true, true, false, true, false] rfl ?_
          exact j_M_first_59 E _ _ _ _ (j_M_first_19 E a0 a1 n)
        · refine J_iload zd_M_first_48 rfl ?_
          refine J_aload_n zd_M_first_50 rfl ?_
          refine J_iload_n zd_M_first_51 rfl ?_
          refine J_iload_n zd_M_first_52 rfl ?_
          refine J_callVi (ci := 10) (as := [.inl _, .inl _]) zd_M_first_53 zm_M_reached ⟨Nat.le_of_ble_eq_true rfl, Nat.le_of_ble_eq_true rfl⟩ zw_962 zw_964 zs_38 (by decide) rfl rfl (Nat.le_of_ble_eq_true rfl) ⟨Nat.le_of_ble_eq_true rfl, Nat.le_of_ble_eq_true rfl⟩ rfl rfl (c_M_reached E _ _ _ _) (fun v5 μ4 => ?_)
          refine J_icmp_ge (tgt := 61) zd_M_first_56 rfl ?_ ?_
          · refine J_wid (k := 0) (n := 0) (Nat.le_of_ble_eq_true rfl) (Nat.le_of_ble_eq_true rfl) ?_
            refine J_keep [true, true, true, true, false] rfl ?_
            exact j_M_first_61 E _ _ _ _ _ (j_M_first_19 E a0 a1 n)
          · refine J_wid (k := 0) (n := 0) (Nat.le_of_ble_eq_true rfl) (Nat.le_of_ble_eq_true rfl) ?_
            refine J_keep [true, true, false, true, false] rfl ?_
            exact j_M_first_59 E _ _ _ _ (j_M_first_19 E a0 a1 n)
def f_M_first (a0 : Nat) (a1 : Int32) (μ : Mem) : Option (LV × Mem) := cV 10 a0 μ (bI (f_M_isCall a0 a1 μ) (fun v7 μ6 => (if v7 = 0 then cV 10 a0 μ6 (bI (f_M_no a0 (-1) μ6) (fun v9 μ8 => (some (.inl v9, μ8)))) else (k_M_first_19 a0 a1 120000 (-9) 0 μ6))))
set_option maxRecDepth 20000 in
theorem c_M_first (E : EV) (a0 : Nat) (a1 : Int32) (μ : Mem) : Ct E I_M_first (rmk 5 0 0) [.inr a0, .inl a1] μ (f_M_first a0 a1 μ) := by
  refine Ct.of (k := 3) (by decide +kernel) rfl ?_
  show J E I_M_first (rmk 5 0 0) (QR E I_M_first (rmk 5 0 0)) 0 0 μ 0 [some (.inr a0), some (.inl a1), none, none, none] [] (f_M_first a0 a1 μ)
  unfold f_M_first
  refine J_aload_n zd_M_first_0 rfl ?_
  refine J_iload_n zd_M_first_1 rfl ?_
  refine J_callVi (ci := 10) (as := [.inl _]) zd_M_first_2 zm_M_isCall ⟨Nat.le_of_ble_eq_true rfl, Nat.le_of_ble_eq_true rfl⟩ zw_940 zw_942 zs_34 (by decide) rfl rfl (Nat.le_of_ble_eq_true rfl) ⟨Nat.le_of_ble_eq_true rfl, Nat.le_of_ble_eq_true rfl⟩ rfl rfl (c_M_isCall E _ _ _) (fun v7 μ6 => ?_)
  refine J_if_ne (tgt := 14) zd_M_first_5 rfl ?_ ?_
  · refine J_bipush (v := (-9)) zd_M_first_14 (by decide) ?_
    refine J_istore_n (lv' := [some _, some _, some _, none, none]) zd_M_first_16 (Nat.le_of_ble_eq_true rfl) rfl ?_
    refine J_iconst (v := 0) zd_M_first_17 (by decide) ?_
    refine J_istore_n (lv' := [some _, some _, some _, some _, none]) zd_M_first_18 (Nat.le_of_ble_eq_true rfl) rfl ?_
    refine J_wid (k := 0) (n := 0) (Nat.le_of_ble_eq_true rfl) (Nat.le_of_ble_eq_true rfl) ?_
    refine J_keep [true, true, true, true, false] rfl ?_
    exact j_M_first_19 E _ _ _ _ _ _
  · refine J_aload_n zd_M_first_8 rfl ?_
    refine J_iconst (v := (-1)) zd_M_first_9 (by decide) ?_
    refine J_callVi (ci := 10) (as := [.inl _]) zd_M_first_10 zm_M_no ⟨Nat.le_of_ble_eq_true rfl, Nat.le_of_ble_eq_true rfl⟩ zw_821 zw_823 zs_22 (by decide) rfl rfl (Nat.le_of_ble_eq_true rfl) ⟨Nat.le_of_ble_eq_true rfl, Nat.le_of_ble_eq_true rfl⟩ rfl rfl (c_M_no E _ _ _) (fun v9 μ8 => ?_)
    exact J_iret zd_M_first_13 rfl (Nat.le_of_ble_eq_true rfl) (Nat.le_of_ble_eq_true rfl)
def b_M_two_21  (a0 : Nat)  (μ : Mem) : Option (LV × Mem) := cV 10 a0 μ (bI (f_M_no a0 (-1) μ) (fun v2 μ1 => (some (.inl v2, μ1))))
set_option maxRecDepth 20000 in
theorem j_M_two_21 (E : EV) (a0 : Nat)  (μ : Mem)  : J E I_M_two (rmk 5 0 0) (QR E I_M_two (rmk 5 0 0)) 0 0 μ 21 [some (.inr a0), none, none, none, none, none, none, none, none, none, none, none, none] [] (b_M_two_21 a0 μ) := by
  unfold b_M_two_21
  refine J_aload_n zd_M_two_21 rfl ?_
  refine J_iconst (v := (-1)) zd_M_two_22 (by decide) ?_
  refine J_callVi (ci := 10) (as := [.inl _]) zd_M_two_23 zm_M_no ⟨Nat.le_of_ble_eq_true rfl, Nat.le_of_ble_eq_true rfl⟩ zw_821 zw_823 zs_22 (by decide) rfl rfl (Nat.le_of_ble_eq_true rfl) ⟨Nat.le_of_ble_eq_true rfl, Nat.le_of_ble_eq_true rfl⟩ rfl rfl (c_M_no E _ _ _) (fun v2 μ1 => ?_)
  exact J_iret zd_M_two_26 rfl (Nat.le_of_ble_eq_true rfl) (Nat.le_of_ble_eq_true rfl)
def b_M_two_36  (a0 : Nat)  (μ : Mem) : Option (LV × Mem) := cV 10 a0 μ (bI (f_M_no a0 (-2) μ) (fun v4 μ3 => (some (.inl v4, μ3))))
set_option maxRecDepth 20000 in
theorem j_M_two_36 (E : EV) (a0 : Nat)  (μ : Mem)  : J E I_M_two (rmk 5 0 0) (QR E I_M_two (rmk 5 0 0)) 0 0 μ 36 [some (.inr a0), none, none, none, none, none, none, none, none, none, none, none, none] [] (b_M_two_36 a0 μ) := by
  unfold b_M_two_36
  refine J_aload_n zd_M_two_36 rfl ?_
  refine J_bipush (v := (-2)) zd_M_two_37 (by decide) ?_
  refine J_callVi (ci := 10) (as := [.inl _]) zd_M_two_39 zm_M_no ⟨Nat.le_of_ble_eq_true rfl, Nat.le_of_ble_eq_true rfl⟩ zw_821 zw_823 zs_22 (by decide) rfl rfl (Nat.le_of_ble_eq_true rfl) ⟨Nat.le_of_ble_eq_true rfl, Nat.le_of_ble_eq_true rfl⟩ rfl rfl (c_M_no E _ _ _) (fun v4 μ3 => ?_)
  exact J_iret zd_M_two_42 rfl (Nat.le_of_ble_eq_true rfl) (Nat.le_of_ble_eq_true rfl)
def b_M_two_210 (c73 : Int32 → Int32 → Int32 → Int32 → Int32 → Mem → Option (LV × Mem)) (a0 : Nat) (a1 : Int32) (a2 : Int32) (a3 : Int32) (a4 : Int32) (a5 : Int32) (a6 : Int32) (a7 : Int32) (a8 : Int32) (a9 : Int32)  (μ : Mem) : Option (LV × Mem) := (c73 a4 a5 a6 a7 (a9 + 1) μ)
set_option maxRecDepth 20000 in
theorem j_M_two_210 (E : EV) (a0 : Nat) (a1 : Int32) (a2 : Int32) (a3 : Int32) (a4 : Int32) (a5 : Int32) (a6 : Int32) (a7 : Int32) (a8 : Int32) (a9 : Int32)  (μ : Mem) {c73 : Int32 → Int32 → Int32 → Int32 → Int32 → Mem → Option (LV × Mem)} (h73 : ∀ (b4 : Int32) (b5 : Int32) (b6 : Int32) (b7 : Int32) (b9 : Int32)  (μ : Mem), J E I_M_two (rmk 5 0 0) (QR E I_M_two (rmk 5 0 0)) 0 0 μ 73 [some (.inr a0), some (.inl a1), some (.inl a2), some (.inl a3), some (.inl b4), some (.inl b5), some (.inl b6), some (.inl b7), some (.inl a8), some (.inl b9), none, none, none] [] (c73 b4 b5 b6 b7 b9 μ)) : J E I_M_two (rmk 5 0 0) (QR E I_M_two (rmk 5 0 0)) 0 0 μ 210 [some (.inr a0), some (.inl a1), some (.inl a2), some (.inl a3), some (.inl a4), some (.inl a5), some (.inl a6), some (.inl a7), some (.inl a8), some (.inl a9), none, none, none] [] (b_M_two_210 c73 a0 a1 a2 a3 a4 a5 a6 a7 a8 a9 μ) := by
  unfold b_M_two_210
  refine J_iinc (v := _ + 1) (lv' := [some _, some _, some _, some _, some _, some _, some _, some _, some _, some _, none, none, none]) zd_M_two_210 (Nat.le_of_ble_eq_true rfl) rfl (by rfl) rfl ?_
  refine J_goto (tgt := 73) zd_M_two_213 rfl ?_
  refine J_wid (k := 0) (n := 0) (Nat.le_of_ble_eq_true rfl) (Nat.le_of_ble_eq_true rfl) ?_
  refine J_keep [true, true, true, true, true, true, true, true, true, true, false, false, false] rfl ?_
  exact h73 _ _ _ _ _ _
def b_M_two_191 (c73 : Int32 → Int32 → Int32 → Int32 → Int32 → Mem → Option (LV × Mem)) (a0 : Nat) (a1 : Int32) (a2 : Int32) (a3 : Int32) (a8 : Int32) (a9 : Int32) (a10 : Int32) (a11 : Int32) (a12 : Int32)  (μ : Mem) : Option (LV × Mem) := nm (a10 + a11) (fun v5 => (b_M_two_210 c73 a0 a1 a2 a3 a12 v5 a8 a9 a8 a9 μ))
set_option maxRecDepth 20000 in
theorem j_M_two_191 (E : EV) (a0 : Nat) (a1 : Int32) (a2 : Int32) (a3 : Int32) (a8 : Int32) (a9 : Int32) (a10 : Int32) (a11 : Int32) (a12 : Int32)  (μ : Mem) {c73 : Int32 → Int32 → Int32 → Int32 → Int32 → Mem → Option (LV × Mem)} (h73 : ∀ (b4 : Int32) (b5 : Int32) (b6 : Int32) (b7 : Int32) (b9 : Int32)  (μ : Mem), J E I_M_two (rmk 5 0 0) (QR E I_M_two (rmk 5 0 0)) 0 0 μ 73 [some (.inr a0), some (.inl a1), some (.inl a2), some (.inl a3), some (.inl b4), some (.inl b5), some (.inl b6), some (.inl b7), some (.inl a8), some (.inl b9), none, none, none] [] (c73 b4 b5 b6 b7 b9 μ)) : J E I_M_two (rmk 5 0 0) (QR E I_M_two (rmk 5 0 0)) 0 0 μ 191 [some (.inr a0), some (.inl a1), some (.inl a2), some (.inl a3), none, none, none, none, some (.inl a8), some (.inl a9), some (.inl a10), some (.inl a11), some (.inl a12)] [] (b_M_two_191 c73 a0 a1 a2 a3 a8 a9 a10 a11 a12 μ) := by
  unfold b_M_two_191
  refine J_iload zd_M_two_191 rfl ?_
  refine J_istore (lv' := [some _, some _, some _, some _, some _, none, none, none, some _, some _, some _, some _, some _]) zd_M_two_193 (Nat.le_of_ble_eq_true rfl) rfl ?_
  refine J_iload zd_M_two_195 rfl ?_
  refine J_iload zd_M_two_197 rfl ?_
  refine J_iadd zd_M_two_199 ?_
  refine J_nm (fun v5 => ?_)
  refine J_istore (lv' := [some _, some _, some _, some _, some _, some _, none, none, some _, some _, some _, some _, some _]) zd_M_two_200 (Nat.le_of_ble_eq_true rfl) rfl ?_
  refine J_iload zd_M_two_202 rfl ?_
  refine J_istore (lv' := [some _, some _, some _, some _, some _, some _, some _, none, some _, some _, some _, some _, some _]) zd_M_two_204 (Nat.le_of_ble_eq_true rfl) rfl ?_
  refine J_iload zd_M_two_206 rfl ?_
  refine J_istore (lv' := [some _, some _, some _, some _, some _, some _, some _, some _, some _, some _, some _, some _, some _]) zd_M_two_208 (Nat.le_of_ble_eq_true rfl) rfl ?_
  refine J_wid (k := 0) (n := 0) (Nat.le_of_ble_eq_true rfl) (Nat.le_of_ble_eq_true rfl) ?_
  refine J_keep [true, true, true, true, true, true, true, true, true, true, false, false, false] rfl ?_
  exact j_M_two_210 E _ _ _ _ _ _ _ _ _ _ _ h73
def b_M_two_155 (c73 : Int32 → Int32 → Int32 → Int32 → Int32 → Mem → Option (LV × Mem)) (a0 : Nat) (a1 : Int32) (a2 : Int32) (a3 : Int32) (a4 : Int32) (a5 : Int32) (a6 : Int32) (a7 : Int32) (a8 : Int32) (a9 : Int32) (a10 : Int32) (a11 : Int32) (s0 : Int32) (μ : Mem) : Option (LV × Mem) := (if a4 = (-9) then (b_M_two_191 c73 a0 a1 a2 a3 a8 a9 a10 a11 s0 μ) else (if a4 < s0 then (b_M_two_210 c73 a0 a1 a2 a3 a4 a5 a6 a7 a8 a9 μ) else (if s0 = a4 then (if (a10 + a11) < a5 then (b_M_two_191 c73 a0 a1 a2 a3 a8 a9 a10 a11 s0 μ) else (b_M_two_210 c73 a0 a1 a2 a3 a4 a5 a6 a7 a8 a9 μ)) else (b_M_two_191 c73 a0 a1 a2 a3 a8 a9 a10 a11 s0 μ))))
set_option maxRecDepth 20000 in
theorem j_M_two_155 (E : EV) (a0 : Nat) (a1 : Int32) (a2 : Int32) (a3 : Int32) (a4 : Int32) (a5 : Int32) (a6 : Int32) (a7 : Int32) (a8 : Int32) (a9 : Int32) (a10 : Int32) (a11 : Int32) (s0 : Int32) (μ : Mem) {c73 : Int32 → Int32 → Int32 → Int32 → Int32 → Mem → Option (LV × Mem)} (h73 : ∀ (b4 : Int32) (b5 : Int32) (b6 : Int32) (b7 : Int32) (b9 : Int32)  (μ : Mem), J E I_M_two (rmk 5 0 0) (QR E I_M_two (rmk 5 0 0)) 0 0 μ 73 [some (.inr a0), some (.inl a1), some (.inl a2), some (.inl a3), some (.inl b4), some (.inl b5), some (.inl b6), some (.inl b7), some (.inl a8), some (.inl b9), none, none, none] [] (c73 b4 b5 b6 b7 b9 μ)) : J E I_M_two (rmk 5 0 0) (QR E I_M_two (rmk 5 0 0)) 0 0 μ 155 [some (.inr a0), some (.inl a1), some (.inl a2), some (.inl a3), some (.inl a4), some (.inl a5), some (.inl a6), some (.inl a7), some (.inl a8), some (.inl a9), some (.inl a10), some (.inl a11), none] [.inl s0] (b_M_two_155 c73 a0 a1 a2 a3 a4 a5 a6 a7 a8 a9 a10 a11 s0 μ) := by
  unfold b_M_two_155
  refine J_istore (lv' := [some _, some _, some _, some _, some _, some _, some _, some _, some _, some _, some _, some _, some _]) zd_M_two_155 (Nat.le_of_ble_eq_true rfl) rfl ?_
  refine J_iload zd_M_two_157 rfl ?_
  refine J_bipush (v := (-9)) zd_M_two_159 (by decide) ?_
  refine J_icmp_eq (tgt := 191) zd_M_two_161 rfl ?_ ?_
  · refine J_wid (k := 0) (n := 0) (Nat.le_of_ble_eq_true rfl) (Nat.le_of_ble_eq_true rfl) ?_
    refine J_keep [true, true, true, true, false, false, false, false, true, true, true, true, true] rfl ?_
    exact j_M_two_191 E _ _ _ _ _ _ _ _ _ _ h73
  · refine J_iload zd_M_two_164 rfl ?_
    refine J_iload zd_M_two_166 rfl ?_
    refine J_icmp_gt (tgt := 210) zd_M_two_168 rfl ?_ ?_
    · refine J_wid (k := 0) (n := 0) (Nat.le_of_ble_eq_true rfl) (Nat.le_of_ble_eq_true rfl) ?_
      refine J_keep [true, true, true, true, true, true, true, true, true, true, false, false, false] rfl ?_
      exact j_M_two_210 E _ _ _ _ _ _ _ _ _ _ _ h73
    · refine J_iload zd_M_two_171 rfl ?_
      refine J_iload zd_M_two_173 rfl ?_
      refine J_icmp_ne (tgt := 191) zd_M_two_175 rfl ?_ ?_
      · refine J_wid (k := 0) (n := 0) (Nat.le_of_ble_eq_true rfl) (Nat.le_of_ble_eq_true rfl) ?_
        refine J_keep [true, true, true, true, false, false, false, false, true, true, true, true, true] rfl ?_
        exact j_M_two_191 E _ _ _ _ _ _ _ _ _ _ h73
      · refine J_iload zd_M_two_178 rfl ?_
        refine J_iload zd_M_two_180 rfl ?_
        refine J_iadd zd_M_two_182 ?_
        refine J_iload zd_M_two_183 rfl ?_
        refine J_icmp_lt (tgt := 191) zd_M_two_185 rfl ?_ ?_
        · refine J_wid (k := 0) (n := 0) (Nat.le_of_ble_eq_true rfl) (Nat.le_of_ble_eq_true rfl) ?_
          refine J_keep [true, true, true, true, false, false, false, false, true, true, true, true, true] rfl ?_
          exact j_M_two_191 E _ _ _ _ _ _ _ _ _ _ h73
        · refine J_goto (tgt := 210) zd_M_two_188 rfl ?_
          refine J_wid (k := 0) (n := 0) (Nat.le_of_ble_eq_true rfl) (Nat.le_of_ble_eq_true rfl) ?_
          refine J_keep [true, true, true, true, true, true, true, true, true, true, false, false, false] rfl ?_
          exact j_M_two_210 E _ _ _ _ _ _ _ _ _ _ _ h73
def b_M_two_122 (c73 : Int32 → Int32 → Int32 → Int32 → Int32 → Mem → Option (LV × Mem)) (a0 : Nat) (a1 : Int32) (a2 : Int32) (a3 : Int32) (a4 : Int32) (a5 : Int32) (a6 : Int32) (a7 : Int32) (a8 : Int32) (a9 : Int32) (a10 : Int32) (s0 : Int32) (μ : Mem) : Option (LV × Mem) := (if a10 = (-9) then (b_M_two_210 c73 a0 a1 a2 a3 a4 a5 a6 a7 a8 a9 μ) else (if s0 = (-9) then (b_M_two_210 c73 a0 a1 a2 a3 a4 a5 a6 a7 a8 a9 μ) else (if a10 ≤ s0 then (b_M_two_155 c73 a0 a1 a2 a3 a4 a5 a6 a7 a8 a9 a10 s0 s0 μ) else (b_M_two_155 c73 a0 a1 a2 a3 a4 a5 a6 a7 a8 a9 a10 s0 a10 μ))))
set_option maxRecDepth 20000 in
theorem j_M_two_122 (E : EV) (a0 : Nat) (a1 : Int32) (a2 : Int32) (a3 : Int32) (a4 : Int32) (a5 : Int32) (a6 : Int32) (a7 : Int32) (a8 : Int32) (a9 : Int32) (a10 : Int32) (s0 : Int32) (μ : Mem) {c73 : Int32 → Int32 → Int32 → Int32 → Int32 → Mem → Option (LV × Mem)} (h73 : ∀ (b4 : Int32) (b5 : Int32) (b6 : Int32) (b7 : Int32) (b9 : Int32)  (μ : Mem), J E I_M_two (rmk 5 0 0) (QR E I_M_two (rmk 5 0 0)) 0 0 μ 73 [some (.inr a0), some (.inl a1), some (.inl a2), some (.inl a3), some (.inl b4), some (.inl b5), some (.inl b6), some (.inl b7), some (.inl a8), some (.inl b9), none, none, none] [] (c73 b4 b5 b6 b7 b9 μ)) : J E I_M_two (rmk 5 0 0) (QR E I_M_two (rmk 5 0 0)) 0 0 μ 122 [some (.inr a0), some (.inl a1), some (.inl a2), some (.inl a3), some (.inl a4), some (.inl a5), some (.inl a6), some (.inl a7), some (.inl a8), some (.inl a9), some (.inl a10), none, none] [.inl s0] (b_M_two_122 c73 a0 a1 a2 a3 a4 a5 a6 a7 a8 a9 a10 s0 μ) := by
  unfold b_M_two_122
  refine J_istore (lv' := [some _, some _, some _, some _, some _, some _, some _, some _, some _, some _, some _, some _, none]) zd_M_two_122 (Nat.le_of_ble_eq_true rfl) rfl ?_
  refine J_iload zd_M_two_124 rfl ?_
  refine J_bipush (v := (-9)) zd_M_two_126 (by decide) ?_
  refine J_icmp_eq (tgt := 210) zd_M_two_128 rfl ?_ ?_
  · refine J_wid (k := 0) (n := 0) (Nat.le_of_ble_eq_true rfl) (Nat.le_of_ble_eq_true rfl) ?_
    refine J_keep [true, true, true, true, true, true, true, true, true, true, false, false, false] rfl ?_
    exact j_M_two_210 E _ _ _ _ _ _ _ _ _ _ _ h73
  · refine J_iload zd_M_two_131 rfl ?_
    refine J_bipush (v := (-9)) zd_M_two_133 (by decide) ?_
    refine J_icmp_ne (tgt := 141) zd_M_two_135 rfl ?_ ?_
    · refine J_iload zd_M_two_141 rfl ?_
      refine J_iload zd_M_two_143 rfl ?_
      refine J_icmp_le (tgt := 153) zd_M_two_145 rfl ?_ ?_
      · refine J_iload zd_M_two_153 rfl ?_
        refine J_wid (k := 0) (n := 0) (Nat.le_of_ble_eq_true rfl) (Nat.le_of_ble_eq_true rfl) ?_
        refine J_keep [true, true, true, true, true, true, true, true, true, true, true, true, false] rfl ?_
        exact j_M_two_155 E _ _ _ _ _ _ _ _ _ _ _ _ _ _ h73
      · refine J_iload zd_M_two_148 rfl ?_
        refine J_goto (tgt := 155) zd_M_two_150 rfl ?_
        refine J_wid (k := 0) (n := 0) (Nat.le_of_ble_eq_true rfl) (Nat.le_of_ble_eq_true rfl) ?_
        refine J_keep [true, true, true, true, true, true, true, true, true, true, true, true, false] rfl ?_
        exact j_M_two_155 E _ _ _ _ _ _ _ _ _ _ _ _ _ _ h73
    · refine J_goto (tgt := 210) zd_M_two_138 rfl ?_
      refine J_wid (k := 0) (n := 0) (Nat.le_of_ble_eq_true rfl) (Nat.le_of_ble_eq_true rfl) ?_
      refine J_keep [true, true, true, true, true, true, true, true, true, true, false, false, false] rfl ?_
      exact j_M_two_210 E _ _ _ _ _ _ _ _ _ _ _ h73
def b_M_two_101 (c73 : Int32 → Int32 → Int32 → Int32 → Int32 → Mem → Option (LV × Mem)) (a0 : Nat) (a1 : Int32) (a2 : Int32) (a3 : Int32) (a4 : Int32) (a5 : Int32) (a6 : Int32) (a7 : Int32) (a8 : Int32) (a9 : Int32) (s0 : Int32) (μ : Mem) : Option (LV × Mem) := (if a8 = a9 then (b_M_two_122 c73 a0 a1 a2 a3 a4 a5 a6 a7 a8 a9 s0 (-9) μ) else cV 10 a0 μ (bI (f_M_reached a0 a9 a2 μ) (fun v7 μ6 => (b_M_two_122 c73 a0 a1 a2 a3 a4 a5 a6 a7 a8 a9 s0 v7 μ6))))
set_option maxRecDepth 20000 in
theorem j_M_two_101 (E : EV) (a0 : Nat) (a1 : Int32) (a2 : Int32) (a3 : Int32) (a4 : Int32) (a5 : Int32) (a6 : Int32) (a7 : Int32) (a8 : Int32) (a9 : Int32) (s0 : Int32) (μ : Mem) {c73 : Int32 → Int32 → Int32 → Int32 → Int32 → Mem → Option (LV × Mem)} (h73 : ∀ (b4 : Int32) (b5 : Int32) (b6 : Int32) (b7 : Int32) (b9 : Int32)  (μ : Mem), J E I_M_two (rmk 5 0 0) (QR E I_M_two (rmk 5 0 0)) 0 0 μ 73 [some (.inr a0), some (.inl a1), some (.inl a2), some (.inl a3), some (.inl b4), some (.inl b5), some (.inl b6), some (.inl b7), some (.inl a8), some (.inl b9), none, none, none] [] (c73 b4 b5 b6 b7 b9 μ)) : J E I_M_two (rmk 5 0 0) (QR E I_M_two (rmk 5 0 0)) 0 0 μ 101 [some (.inr a0), some (.inl a1), some (.inl a2), some (.inl a3), some (.inl a4), some (.inl a5), some (.inl a6), some (.inl a7), some (.inl a8), some (.inl a9), none, none, none] [.inl s0] (b_M_two_101 c73 a0 a1 a2 a3 a4 a5 a6 a7 a8 a9 s0 μ) := by
  unfold b_M_two_101
  refine J_istore (lv' := [some _, some _, some _, some _, some _, some _, some _, some _, some _, some _, some _, none, none]) zd_M_two_101 (Nat.le_of_ble_eq_true rfl) rfl ?_
  refine J_iload zd_M_two_103 rfl ?_
  refine J_iload zd_M_two_105 rfl ?_
  refine J_icmp_ne (tgt := 115) zd_M_two_107 rfl ?_ ?_
  · refine J_aload_n zd_M_two_115 rfl ?_
    refine J_iload zd_M_two_116 rfl ?_
    refine J_iload_n zd_M_two_118 rfl ?_
    refine J_callVi (ci := 10) (as := [.inl _, .inl _]) zd_M_two_119 zm_M_reached ⟨Nat.le_of_ble_eq_true rfl, Nat.le_of_ble_eq_true rfl⟩ zw_962 zw_964 zs_38 (by decide) rfl rfl (Nat.le_of_ble_eq_true rfl) ⟨Nat.le_of_ble_eq_true rfl, Nat.le_of_ble_eq_true rfl⟩ rfl rfl (c_M_reached E _ _ _ _) (fun v7 μ6 => ?_)
    refine J_wid (k := 0) (n := 0) (Nat.le_of_ble_eq_true rfl) (Nat.le_of_ble_eq_true rfl) ?_
    refine J_keep [true, true, true, true, true, true, true, true, true, true, true, false, false] rfl ?_
    exact j_M_two_122 E _ _ _ _ _ _ _ _ _ _ _ _ _ h73
  · refine J_bipush (v := (-9)) zd_M_two_110 (by decide) ?_
    refine J_goto (tgt := 122) zd_M_two_112 rfl ?_
    refine J_wid (k := 0) (n := 0) (Nat.le_of_ble_eq_true rfl) (Nat.le_of_ble_eq_true rfl) ?_
    refine J_keep [true, true, true, true, true, true, true, true, true, true, true, false, false] rfl ?_
    exact j_M_two_122 E _ _ _ _ _ _ _ _ _ _ _ _ _ h73
def k_M_two_73 (c216 : Int32 → Int32 → Int32 → Int32 → Int32 → Mem → Option (LV × Mem)) (a0 : Nat) (a1 : Int32) (a2 : Int32) (a3 : Int32) (a8 : Int32) : Nat → Int32 → Int32 → Int32 → Int32 → Int32 → Mem → Option (LV × Mem)
  | 0, _, _, _, _, _, _ => none
  | n + 1, a4, a5, a6, a7, a9, μ => gI 10 a0 2 μ (fun v8 => (if v8 ≤ a9 then (c216 a4 a5 a6 a7 a8 μ) else (if a8 = a9 then (b_M_two_101 (k_M_two_73 c216 a0 a1 a2 a3 a8 n) a0 a1 a2 a3 a4 a5 a6 a7 a8 a9 (-9) μ) else cV 10 a0 μ (bI (f_M_reached a0 a8 a1 μ) (fun v10 μ9 => (b_M_two_101 (k_M_two_73 c216 a0 a1 a2 a3 a8 n) a0 a1 a2 a3 a4 a5 a6 a7 a8 a9 v10 μ9))))))
set_option maxRecDepth 20000 in
theorem j_M_two_73 (E : EV) (a0 : Nat) (a1 : Int32) (a2 : Int32) (a3 : Int32) (a8 : Int32) {c216 : Int32 → Int32 → Int32 → Int32 → Int32 → Mem → Option (LV × Mem)} (h216 : ∀ (b4 : Int32) (b5 : Int32) (b6 : Int32) (b7 : Int32) (b8 : Int32)  (μ : Mem), J E I_M_two (rmk 5 0 0) (QR E I_M_two (rmk 5 0 0)) 0 0 μ 216 [some (.inr a0), some (.inl a1), some (.inl a2), some (.inl a3), some (.inl b4), some (.inl b5), some (.inl b6), some (.inl b7), some (.inl b8), none, none, none, none] [] (c216 b4 b5 b6 b7 b8 μ)) : ∀ (n : Nat) (a4 : Int32) (a5 : Int32) (a6 : Int32) (a7 : Int32) (a9 : Int32) (μ : Mem), J E I_M_two (rmk 5 0 0) (QR E I_M_two (rmk 5 0 0)) 0 0 μ 73 [some (.inr a0), some (.inl a1), some (.inl a2), some (.inl a3), some (.inl a4), some (.inl a5), some (.inl a6), some (.inl a7), some (.inl a8), some (.inl a9), none, none, none] [] (k_M_two_73 c216 a0 a1 a2 a3 a8 n a4 a5 a6 a7 a9 μ)
  | 0, _, _, _, _, _, _ => J_none
  | n + 1, a4, a5, a6, a7, a9, μ => by
    show J E I_M_two (rmk 5 0 0) (QR E I_M_two (rmk 5 0 0)) 0 0 μ 73 [some (.inr a0), some (.inl a1), some (.inl a2), some (.inl a3), some (.inl a4), some (.inl a5), some (.inl a6), some (.inl a7), some (.inl a8), some (.inl a9), none, none, none] [] (gI 10 a0 2 μ (fun v8 => (if v8 ≤ a9 then (c216 a4 a5 a6 a7 a8 μ) else (if a8 = a9 then (b_M_two_101 (k_M_two_73 c216 a0 a1 a2 a3 a8 n) a0 a1 a2 a3 a4 a5 a6 a7 a8 a9 (-9) μ) else cV 10 a0 μ (bI (f_M_reached a0 a8 a1 μ) (fun v10 μ9 => (b_M_two_101 (k_M_two_73 c216 a0 a1 a2 a3 a8 n) a0 a1 a2 a3 a4 a5 a6 a7 a8 a9 v10 μ9)))))))
    refine J_iload zd_M_two_73 rfl ?_
    refine J_aload_n zd_M_two_75 rfl ?_
    refine J_gI zd_M_two_76 zf_M_113 rfl (fun v8 => ?_)
    refine J_icmp_ge (tgt := 216) zd_M_two_79 rfl ?_ ?_
    · refine J_wid (k := 0) (n := 0) (Nat.le_of_ble_eq_true rfl) (Nat.le_of_ble_eq_true rfl) ?_
      refine J_keep [true, true, true, true, true, true, true, true, true, false, false, false, false] rfl ?_
      exact h216 _ _ _ _ _ _
    · refine J_iload zd_M_two_82 rfl ?_
      refine J_iload zd_M_two_84 rfl ?_
      refine J_icmp_ne (tgt := 94) zd_M_two_86 rfl ?_ ?_
      · refine J_aload_n zd_M_two_94 rfl ?_
        refine J_iload zd_M_two_95 rfl ?_
        refine J_iload_n zd_M_two_97 rfl ?_
        refine J_callVi (ci := 10) (as := [.inl _, .inl _]) zd_M_two_98 zm_M_reached ⟨Nat.le_of_ble_eq_true rfl, Nat.le_of_ble_eq_true rfl⟩ zw_962 zw_964 zs_38 (by decide) rfl rfl (Nat.le_of_ble_eq_true rfl) ⟨Nat.le_of_ble_eq_true rfl, Nat.le_of_ble_eq_true rfl⟩ rfl rfl (c_M_reached E _ _ _ _) (fun v10 μ9 => ?_)
        refine J_wid (k := 0) (n := 0) (Nat.le_of_ble_eq_true rfl) (Nat.le_of_ble_eq_true rfl) ?_
        refine J_keep [true, true, true, true, true, true, true, true, true, true, false, false, false] rfl ?_
        exact j_M_two_101 E _ _ _ _ _ _ _ _ _ _ _ _ (j_M_two_73 E a0 a1 a2 a3 a8 h216 n)
      · refine J_bipush (v := (-9)) zd_M_two_89 (by decide) ?_
        refine J_goto (tgt := 101) zd_M_two_91 rfl ?_
        refine J_wid (k := 0) (n := 0) (Nat.le_of_ble_eq_true rfl) (Nat.le_of_ble_eq_true rfl) ?_
        refine J_keep [true, true, true, true, true, true, true, true, true, true, false, false, false] rfl ?_
        exact j_M_two_101 E _ _ _ _ _ _ _ _ _ _ _ _ (j_M_two_73 E a0 a1 a2 a3 a8 h216 n)
def b_M_two_216 (c61 : Int32 → Int32 → Int32 → Int32 → Int32 → Mem → Option (LV × Mem)) (a0 : Nat) (a1 : Int32) (a2 : Int32) (a3 : Int32) (a4 : Int32) (a5 : Int32) (a6 : Int32) (a7 : Int32) (a8 : Int32)  (μ : Mem) : Option (LV × Mem) := (c61 a4 a5 a6 a7 (a8 + 1) μ)
set_option maxRecDepth 20000 in
theorem j_M_two_216 (E : EV) (a0 : Nat) (a1 : Int32) (a2 : Int32) (a3 : Int32) (a4 : Int32) (a5 : Int32) (a6 : Int32) (a7 : Int32) (a8 : Int32)  (μ : Mem) {c61 : Int32 → Int32 → Int32 → Int32 → Int32 → Mem → Option (LV × Mem)} (h61 : ∀ (b4 : Int32) (b5 : Int32) (b6 : Int32) (b7 : Int32) (b8 : Int32)  (μ : Mem), J E I_M_two (rmk 5 0 0) (QR E I_M_two (rmk 5 0 0)) 0 0 μ 61 [some (.inr a0), some (.inl a1), some (.inl a2), some (.inl a3), some (.inl b4), some (.inl b5), some (.inl b6), some (.inl b7), some (.inl b8), none, none, none, none] [] (c61 b4 b5 b6 b7 b8 μ)) : J E I_M_two (rmk 5 0 0) (QR E I_M_two (rmk 5 0 0)) 0 0 μ 216 [some (.inr a0), some (.inl a1), some (.inl a2), some (.inl a3), some (.inl a4), some (.inl a5), some (.inl a6), some (.inl a7), some (.inl a8), none, none, none, none] [] (b_M_two_216 c61 a0 a1 a2 a3 a4 a5 a6 a7 a8 μ) := by
  unfold b_M_two_216
  refine J_iinc (v := _ + 1) (lv' := [some _, some _, some _, some _, some _, some _, some _, some _, some _, none, none, none, none]) zd_M_two_216 (Nat.le_of_ble_eq_true rfl) rfl (by rfl) rfl ?_
  refine J_goto (tgt := 61) zd_M_two_219 rfl ?_
  refine J_wid (k := 0) (n := 0) (Nat.le_of_ble_eq_true rfl) (Nat.le_of_ble_eq_true rfl) ?_
  refine J_keep [true, true, true, true, true, true, true, true, true, false, false, false, false] rfl ?_
  exact h61 _ _ _ _ _ _
def k_M_two_61 (c222 : Int32 → Int32 → Int32 → Int32 → Mem → Option (LV × Mem)) (a0 : Nat) (a1 : Int32) (a2 : Int32) (a3 : Int32) : Nat → Int32 → Int32 → Int32 → Int32 → Int32 → Mem → Option (LV × Mem)
  | 0, _, _, _, _, _, _ => none
  | n + 1, a4, a5, a6, a7, a8, μ => gI 10 a0 2 μ (fun v11 => (if v11 ≤ a8 then (c222 a3 a4 a6 a7 μ) else (k_M_two_73 (fun b4 b5 b6 b7 b8 m_ => b_M_two_216 (k_M_two_61 c222 a0 a1 a2 a3 n) a0 a1 a2 a3 b4 b5 b6 b7 b8 m_) a0 a1 a2 a3 a8 120000 a4 a5 a6 a7 0 μ)))
set_option maxRecDepth 20000 in
theorem j_M_two_61 (E : EV) (a0 : Nat) (a1 : Int32) (a2 : Int32) (a3 : Int32) {c222 : Int32 → Int32 → Int32 → Int32 → Mem → Option (LV × Mem)} (h222 : ∀ (b3 : Int32) (b4 : Int32) (b6 : Int32) (b7 : Int32)  (μ : Mem), J E I_M_two (rmk 5 0 0) (QR E I_M_two (rmk 5 0 0)) 0 0 μ 222 [none, none, none, some (.inl b3), some (.inl b4), none, some (.inl b6), some (.inl b7), none, none, none, none, none] [] (c222 b3 b4 b6 b7 μ)) : ∀ (n : Nat) (a4 : Int32) (a5 : Int32) (a6 : Int32) (a7 : Int32) (a8 : Int32) (μ : Mem), J E I_M_two (rmk 5 0 0) (QR E I_M_two (rmk 5 0 0)) 0 0 μ 61 [some (.inr a0), some (.inl a1), some (.inl a2), some (.inl a3), some (.inl a4), some (.inl a5), some (.inl a6), some (.inl a7), some (.inl a8), none, none, none, none] [] (k_M_two_61 c222 a0 a1 a2 a3 n a4 a5 a6 a7 a8 μ)
  | 0, _, _, _, _, _, _ => J_none
  | n + 1, a4, a5, a6, a7, a8, μ => by
    show J E I_M_two (rmk 5 0 0) (QR E I_M_two (rmk 5 0 0)) 0 0 μ 61 [some (.inr a0), some (.inl a1), some (.inl a2), some (.inl a3), some (.inl a4), some (.inl a5), some (.inl a6), some (.inl a7), some (.inl a8), none, none, none, none] [] (gI 10 a0 2 μ (fun v11 => (if v11 ≤ a8 then (c222 a3 a4 a6 a7 μ) else (k_M_two_73 (fun b4 b5 b6 b7 b8 m_ => b_M_two_216 (k_M_two_61 c222 a0 a1 a2 a3 n) a0 a1 a2 a3 b4 b5 b6 b7 b8 m_) a0 a1 a2 a3 a8 120000 a4 a5 a6 a7 0 μ))))
    refine J_iload zd_M_two_61 rfl ?_
    refine J_aload_n zd_M_two_63 rfl ?_
    refine J_gI zd_M_two_64 zf_M_113 rfl (fun v11 => ?_)
    refine J_icmp_ge (tgt := 222) zd_M_two_67 rfl ?_ ?_
    · refine J_wid (k := 0) (n := 0) (Nat.le_of_ble_eq_true rfl) (Nat.le_of_ble_eq_true rfl) ?_
      refine J_keep [false, false, false, true, true, false, true, true, false, false, false, false, false] rfl ?_
      exact h222 _ _ _ _ _
    · refine J_iconst (v := 0) zd_M_two_70 (by decide) ?_
      refine J_istore (lv' := [some _, some _, some _, some _, some _, some _, some _, some _, some _, some _, none, none, none]) zd_M_two_71 (Nat.le_of_ble_eq_true rfl) rfl ?_
      refine J_wid (k := 0) (n := 0) (Nat.le_of_ble_eq_true rfl) (Nat.le_of_ble_eq_true rfl) ?_
      refine J_keep [true, true, true, true, true, true, true, true, true, true, false, false, false] rfl ?_
      exact j_M_two_73 E _ _ _ _ _ (fun b4 b5 b6 b7 b8 m_ => j_M_two_216 E a0 a1 a2 a3 b4 b5 b6 b7 b8 m_ (j_M_two_61 E a0 a1 a2 a3 h222 n)) _ _ _ _ _ _ _
def b_M_two_222  (a3 : Int32) (a4 : Int32) (a6 : Int32) (a7 : Int32)  (μ : Mem) : Option (LV × Mem) := (if a3 = 0 then (some (.inl a4, μ)) else (if a3 = 1 then (some (.inl a6, μ)) else (some (.inl a7, μ))))
set_option maxRecDepth 20000 in
theorem j_M_two_222 (E : EV) (a3 : Int32) (a4 : Int32) (a6 : Int32) (a7 : Int32)  (μ : Mem)  : J E I_M_two (rmk 5 0 0) (QR E I_M_two (rmk 5 0 0)) 0 0 μ 222 [none, none, none, some (.inl a3), some (.inl a4), none, some (.inl a6), some (.inl a7), none, none, none, none, none] [] (b_M_two_222 a3 a4 a6 a7 μ) := by
  unfold b_M_two_222
  refine J_iload_n zd_M_two_222 rfl ?_
  refine J_if_ne (tgt := 231) zd_M_two_223 rfl ?_ ?_
  · refine J_iload_n zd_M_two_231 rfl ?_
    refine J_iconst (v := 1) zd_M_two_232 (by decide) ?_
    refine J_icmp_ne (tgt := 241) zd_M_two_233 rfl ?_ ?_
    · refine J_iload zd_M_two_241 rfl ?_
      exact J_iret zd_M_two_243 rfl (Nat.le_of_ble_eq_true rfl) (Nat.le_of_ble_eq_true rfl)
    · refine J_iload zd_M_two_236 rfl ?_
      refine J_goto (tgt := 243) zd_M_two_238 rfl ?_
      exact J_iret zd_M_two_243 rfl (Nat.le_of_ble_eq_true rfl) (Nat.le_of_ble_eq_true rfl)
  · refine J_iload zd_M_two_226 rfl ?_
    refine J_goto (tgt := 243) zd_M_two_228 rfl ?_
    exact J_iret zd_M_two_243 rfl (Nat.le_of_ble_eq_true rfl) (Nat.le_of_ble_eq_true rfl)
def f_M_two (a0 : Nat) (a1 : Int32) (a2 : Int32) (a3 : Int32) (μ : Mem) : Option (LV × Mem) := cV 10 a0 μ (bI (f_M_isCall a0 a1 μ) (fun v13 μ12 => (if v13 = 0 then (b_M_two_21 a0 μ12) else cV 10 a0 μ12 (bI (f_M_isCall a0 a2 μ12) (fun v15 μ14 => (if v15 = 0 then (b_M_two_21 a0 μ14) else (if a1 = a2 then (b_M_two_21 a0 μ14) else (if a3 < 0 then (b_M_two_36 a0 μ14) else (if a3 ≤ 2 then (k_M_two_61 (fun b3 b4 b6 b7 m_ => b_M_two_222 b3 b4 b6 b7 m_) a0 a1 a2 a3 120000 (-9) 0 (-9) (-9) 0 μ14) else (b_M_two_36 a0 μ14))))))))))
set_option maxRecDepth 20000 in
theorem c_M_two (E : EV) (a0 : Nat) (a1 : Int32) (a2 : Int32) (a3 : Int32) (μ : Mem) : Ct E I_M_two (rmk 5 0 0) [.inr a0, .inl a1, .inl a2, .inl a3] μ (f_M_two a0 a1 a2 a3 μ) := by
  refine Ct.of (k := 9) (by decide +kernel) rfl ?_
  show J E I_M_two (rmk 5 0 0) (QR E I_M_two (rmk 5 0 0)) 0 0 μ 0 [some (.inr a0), some (.inl a1), some (.inl a2), some (.inl a3), none, none, none, none, none, none, none, none, none] [] (f_M_two a0 a1 a2 a3 μ)
  unfold f_M_two
  refine J_aload_n zd_M_two_0 rfl ?_
  refine J_iload_n zd_M_two_1 rfl ?_
  refine J_callVi (ci := 10) (as := [.inl _]) zd_M_two_2 zm_M_isCall ⟨Nat.le_of_ble_eq_true rfl, Nat.le_of_ble_eq_true rfl⟩ zw_940 zw_942 zs_34 (by decide) rfl rfl (Nat.le_of_ble_eq_true rfl) ⟨Nat.le_of_ble_eq_true rfl, Nat.le_of_ble_eq_true rfl⟩ rfl rfl (c_M_isCall E _ _ _) (fun v13 μ12 => ?_)
  refine J_if_eq (tgt := 21) zd_M_two_5 rfl ?_ ?_
  · refine J_wid (k := 0) (n := 0) (Nat.le_of_ble_eq_true rfl) (Nat.le_of_ble_eq_true rfl) ?_
    refine J_keep [true, false, false, false, false, false, false, false, false, false, false, false, false] rfl ?_
    exact j_M_two_21 E _ _
  · refine J_aload_n zd_M_two_8 rfl ?_
    refine J_iload_n zd_M_two_9 rfl ?_
    refine J_callVi (ci := 10) (as := [.inl _]) zd_M_two_10 zm_M_isCall ⟨Nat.le_of_ble_eq_true rfl, Nat.le_of_ble_eq_true rfl⟩ zw_940 zw_942 zs_34 (by decide) rfl rfl (Nat.le_of_ble_eq_true rfl) ⟨Nat.le_of_ble_eq_true rfl, Nat.le_of_ble_eq_true rfl⟩ rfl rfl (c_M_isCall E _ _ _) (fun v15 μ14 => ?_)
    refine J_if_eq (tgt := 21) zd_M_two_13 rfl ?_ ?_
    · refine J_wid (k := 0) (n := 0) (Nat.le_of_ble_eq_true rfl) (Nat.le_of_ble_eq_true rfl) ?_
      refine J_keep [true, false, false, false, false, false, false, false, false, false, false, false, false] rfl ?_
      exact j_M_two_21 E _ _
    · refine J_iload_n zd_M_two_16 rfl ?_
      refine J_iload_n zd_M_two_17 rfl ?_
      refine J_icmp_ne (tgt := 27) zd_M_two_18 rfl ?_ ?_
      · refine J_iload_n zd_M_two_27 rfl ?_
        refine J_if_lt (tgt := 36) zd_M_two_28 rfl ?_ ?_
        · refine J_wid (k := 0) (n := 0) (Nat.le_of_ble_eq_true rfl) (Nat.le_of_ble_eq_true rfl) ?_
          refine J_keep [true, false, false, false, false, false, false, false, false, false, false, false, false] rfl ?_
          exact j_M_two_36 E _ _
        · refine J_iload_n zd_M_two_31 rfl ?_
          refine J_iconst (v := 2) zd_M_two_32 (by decide) ?_
          refine J_icmp_le (tgt := 43) zd_M_two_33 rfl ?_ ?_
          · refine J_bipush (v := (-9)) zd_M_two_43 (by decide) ?_
            refine J_istore (lv' := [some _, some _, some _, some _, some _, none, none, none, none, none, none, none, none]) zd_M_two_45 (Nat.le_of_ble_eq_true rfl) rfl ?_
            refine J_iconst (v := 0) zd_M_two_47 (by decide) ?_
            refine J_istore (lv' := [some _, some _, some _, some _, some _, some _, none, none, none, none, none, none, none]) zd_M_two_48 (Nat.le_of_ble_eq_true rfl) rfl ?_
            refine J_bipush (v := (-9)) zd_M_two_50 (by decide) ?_
            refine J_istore (lv' := [some _, some _, some _, some _, some _, some _, some _, none, none, none, none, none, none]) zd_M_two_52 (Nat.le_of_ble_eq_true rfl) rfl ?_
            refine J_bipush (v := (-9)) zd_M_two_54 (by decide) ?_
            refine J_istore (lv' := [some _, some _, some _, some _, some _, some _, some _, some _, none, none, none, none, none]) zd_M_two_56 (Nat.le_of_ble_eq_true rfl) rfl ?_
            refine J_iconst (v := 0) zd_M_two_58 (by decide) ?_
            refine J_istore (lv' := [some _, some _, some _, some _, some _, some _, some _, some _, some _, none, none, none, none]) zd_M_two_59 (Nat.le_of_ble_eq_true rfl) rfl ?_
            refine J_wid (k := 0) (n := 0) (Nat.le_of_ble_eq_true rfl) (Nat.le_of_ble_eq_true rfl) ?_
            refine J_keep [true, true, true, true, true, true, true, true, true, false, false, false, false] rfl ?_
            exact j_M_two_61 E _ _ _ _ (fun b3 b4 b6 b7 m_ => j_M_two_222 E b3 b4 b6 b7 m_) _ _ _ _ _ _ _
          · refine J_wid (k := 0) (n := 0) (Nat.le_of_ble_eq_true rfl) (Nat.le_of_ble_eq_true rfl) ?_
            refine J_keep [true, false, false, false, false, false, false, false, false, false, false, false, false] rfl ?_
            exact j_M_two_36 E _ _
      · refine J_wid (k := 0) (n := 0) (Nat.le_of_ble_eq_true rfl) (Nat.le_of_ble_eq_true rfl) ?_
        refine J_keep [true, false, false, false, false, false, false, false, false, false, false, false, false] rfl ?_
        exact j_M_two_21 E _ _
def b_M_send_16  (a0 : Nat)  (μ : Mem) : Option (LV × Mem) := cV 10 a0 μ (bI (f_M_no a0 (-1) μ) (fun v2 μ1 => (some (.inl v2, μ1))))
set_option maxRecDepth 20000 in
theorem j_M_send_16 (E : EV) (a0 : Nat)  (μ : Mem)  : J E I_M_send (rmk 5 0 0) (QR E I_M_send (rmk 5 0 0)) 0 0 μ 16 [some (.inr a0), none, none, none, none, none, none, none] [] (b_M_send_16 a0 μ) := by
  unfold b_M_send_16
  refine J_aload_n zd_M_send_16 rfl ?_
  refine J_iconst (v := (-1)) zd_M_send_17 (by decide) ?_
  refine J_callVi (ci := 10) (as := [.inl _]) zd_M_send_18 zm_M_no ⟨Nat.le_of_ble_eq_true rfl, Nat.le_of_ble_eq_true rfl⟩ zw_821 zw_823 zs_22 (by decide) rfl rfl (Nat.le_of_ble_eq_true rfl) ⟨Nat.le_of_ble_eq_true rfl, Nat.le_of_ble_eq_true rfl⟩ rfl rfl (c_M_no E _ _ _) (fun v2 μ1 => ?_)
  exact J_iret zd_M_send_21 rfl (Nat.le_of_ble_eq_true rfl) (Nat.le_of_ble_eq_true rfl)
def b_M_send_45  (a0 : Nat)  (μ : Mem) : Option (LV × Mem) := cV 10 a0 μ (bI (f_M_no a0 (-3) μ) (fun v4 μ3 => (some (.inl v4, μ3))))
set_option maxRecDepth 20000 in
theorem j_M_send_45 (E : EV) (a0 : Nat)  (μ : Mem)  : J E I_M_send (rmk 5 0 0) (QR E I_M_send (rmk 5 0 0)) 0 0 μ 45 [some (.inr a0), none, none, none, none, none, none, none] [] (b_M_send_45 a0 μ) := by
  unfold b_M_send_45
  refine J_aload_n zd_M_send_45 rfl ?_
  refine J_bipush (v := (-3)) zd_M_send_46 (by decide) ?_
  refine J_callVi (ci := 10) (as := [.inl _]) zd_M_send_48 zm_M_no ⟨Nat.le_of_ble_eq_true rfl, Nat.le_of_ble_eq_true rfl⟩ zw_821 zw_823 zs_22 (by decide) rfl rfl (Nat.le_of_ble_eq_true rfl) ⟨Nat.le_of_ble_eq_true rfl, Nat.le_of_ble_eq_true rfl⟩ rfl rfl (c_M_no E _ _ _) (fun v4 μ3 => ?_)
  exact J_iret zd_M_send_51 rfl (Nat.le_of_ble_eq_true rfl) (Nat.le_of_ble_eq_true rfl)
def b_M_send_79  (a0 : Nat)  (μ : Mem) : Option (LV × Mem) := cV 10 a0 μ (bI (f_M_no a0 (-6) μ) (fun v6 μ5 => (some (.inl v6, μ5))))
set_option maxRecDepth 20000 in
theorem j_M_send_79 (E : EV) (a0 : Nat)  (μ : Mem)  : J E I_M_send (rmk 5 0 0) (QR E I_M_send (rmk 5 0 0)) 0 0 μ 79 [some (.inr a0), none, none, none, none, none, none, none] [] (b_M_send_79 a0 μ) := by
  unfold b_M_send_79
  refine J_aload_n zd_M_send_79 rfl ?_
  refine J_bipush (v := (-6)) zd_M_send_80 (by decide) ?_
  refine J_callVi (ci := 10) (as := [.inl _]) zd_M_send_82 zm_M_no ⟨Nat.le_of_ble_eq_true rfl, Nat.le_of_ble_eq_true rfl⟩ zw_821 zw_823 zs_22 (by decide) rfl rfl (Nat.le_of_ble_eq_true rfl) ⟨Nat.le_of_ble_eq_true rfl, Nat.le_of_ble_eq_true rfl⟩ rfl rfl (c_M_no E _ _ _) (fun v6 μ5 => ?_)
  exact J_iret zd_M_send_85 rfl (Nat.le_of_ble_eq_true rfl) (Nat.le_of_ble_eq_true rfl)
def b_M_send_117  (a0 : Nat) (a1 : Int32) (a2 : Int32) (a3 : Int32) (a5 : Int32) (a6 : Int32)  (μ : Mem) : Option (LV × Mem) := cV 10 a0 μ (bI (f_M_way a0 a1 a2 μ) (fun v8 μ7 => bI (f_M_up (60 * v8) a6 μ7) (fun v10 μ9 => nm ((a5 + a3) + v10) (fun v11 => gR 10 a0 23 μ9 (fun r12 => gI 10 a0 4 μ9 (fun v13 => aS r12 v13 a1 μ9 (fun μ14 => gR 10 a0 24 μ14 (fun r15 => gI 10 a0 4 μ14 (fun v16 => aS r15 v16 a2 μ14 (fun μ17 => gR 10 a0 25 μ17 (fun r18 => gI 10 a0 4 μ17 (fun v19 => cV 10 a0 μ17 (bI (f_M_launch a0 a1 μ17) (fun v21 μ20 => aS r18 v19 v21 μ20 (fun μ22 => gR 10 a0 26 μ22 (fun r23 => gI 10 a0 4 μ22 (fun v24 => aS r23 v24 a5 μ22 (fun μ25 => gR 10 a0 27 μ25 (fun r26 => gI 10 a0 4 μ25 (fun v27 => pI 10 a0 4 (v27 + 1) μ25 (fun μ28 => aS r26 v27 v11 μ28 (fun μ29 => gR 10 a0 18 μ29 (fun r30 => aS r30 a1 v11 μ29 (fun μ31 => (some (.inl v11, μ31))))))))))))))))))))))))))
set_option maxRecDepth 20000 in
theorem j_M_send_117 (E : EV) (a0 : Nat) (a1 : Int32) (a2 : Int32) (a3 : Int32) (a5 : Int32) (a6 : Int32)  (μ : Mem)  : J E I_M_send (rmk 5 0 0) (QR E I_M_send (rmk 5 0 0)) 0 0 μ 117 [some (.inr a0), some (.inl a1), some (.inl a2), some (.inl a3), none, some (.inl a5), some (.inl a6), none] [] (b_M_send_117 a0 a1 a2 a3 a5 a6 μ) := by
  unfold b_M_send_117
  refine J_iload zd_M_send_117 rfl ?_
  refine J_iload_n zd_M_send_119 rfl ?_
  refine J_iadd zd_M_send_120 ?_
  refine J_bipush (v := 60) zd_M_send_121 (by decide) ?_
  refine J_aload_n zd_M_send_123 rfl ?_
  refine J_iload_n zd_M_send_124 rfl ?_
  refine J_iload_n zd_M_send_125 rfl ?_
  refine J_callVi (ci := 10) (as := [.inl _, .inl _]) zd_M_send_126 zm_M_way ⟨Nat.le_of_ble_eq_true rfl, Nat.le_of_ble_eq_true rfl⟩ zw_952 zw_954 zs_37 (by decide) rfl rfl (Nat.le_of_ble_eq_true rfl) ⟨Nat.le_of_ble_eq_true rfl, Nat.le_of_ble_eq_true rfl⟩ rfl rfl (c_M_way E _ _ _ _) (fun v8 μ7 => ?_)
  refine J_imul zd_M_send_129 ?_
  refine J_iload zd_M_send_130 rfl ?_
  refine J_callSi (as := [.inl _, .inl _]) zd_M_send_132 zm_M_up ⟨Nat.le_of_ble_eq_true rfl, Nat.le_of_ble_eq_true rfl⟩ zw_959 zw_960 rfl (Nat.le_of_ble_eq_true rfl) ⟨Nat.le_of_ble_eq_true rfl, Nat.le_of_ble_eq_true rfl⟩ rfl rfl (c_M_up E _ _ _) (fun v10 μ9 => ?_)
  refine J_iadd zd_M_send_135 ?_
  refine J_nm (fun v11 => ?_)
  refine J_istore (lv' := [some _, some _, some _, some _, none, some _, some _, some _]) zd_M_send_136 (Nat.le_of_ble_eq_true rfl) rfl ?_
  refine J_aload_n zd_M_send_138 rfl ?_
  refine J_gR zd_M_send_139 zf_M_65 rfl (fun r12 => ?_)
  refine J_aload_n zd_M_send_142 rfl ?_
  refine J_gI zd_M_send_143 zf_M_201 rfl (fun v13 => ?_)
  refine J_iload_n zd_M_send_146 rfl ?_
  refine J_aS zd_M_send_147 (fun μ14 => ?_)
  refine J_aload_n zd_M_send_148 rfl ?_
  refine J_gR zd_M_send_149 zf_M_68 rfl (fun r15 => ?_)
  refine J_aload_n zd_M_send_152 rfl ?_
  refine J_gI zd_M_send_153 zf_M_201 rfl (fun v16 => ?_)
  refine J_iload_n zd_M_send_156 rfl ?_
  refine J_aS zd_M_send_157 (fun μ17 => ?_)
  refine J_aload_n zd_M_send_158 rfl ?_
  refine J_gR zd_M_send_159 zf_M_71 rfl (fun r18 => ?_)
  refine J_aload_n zd_M_send_162 rfl ?_
  refine J_gI zd_M_send_163 zf_M_201 rfl (fun v19 => ?_)
  refine J_aload_n zd_M_send_166 rfl ?_
  refine J_iload_n zd_M_send_167 rfl ?_
  refine J_callVi (ci := 10) (as := [.inl _]) zd_M_send_168 zm_M_launch ⟨Nat.le_of_ble_eq_true rfl, Nat.le_of_ble_eq_true rfl⟩ zw_966 zw_968 zs_39 (by decide) rfl rfl (Nat.le_of_ble_eq_true rfl) ⟨Nat.le_of_ble_eq_true rfl, Nat.le_of_ble_eq_true rfl⟩ rfl rfl (c_M_launch E _ _ _) (fun v21 μ20 => ?_)
  refine J_aS zd_M_send_171 (fun μ22 => ?_)
  refine J_aload_n zd_M_send_172 rfl ?_
  refine J_gR zd_M_send_173 zf_M_74 rfl (fun r23 => ?_)
  refine J_aload_n zd_M_send_176 rfl ?_
  refine J_gI zd_M_send_177 zf_M_201 rfl (fun v24 => ?_)
  refine J_iload zd_M_send_180 rfl ?_
  refine J_aS zd_M_send_182 (fun μ25 => ?_)
  refine J_aload_n zd_M_send_183 rfl ?_
  refine J_gR zd_M_send_184 zf_M_77 rfl (fun r26 => ?_)
  refine J_aload_n zd_M_send_187 rfl ?_
  refine J_dup zd_M_send_188 ?_
  refine J_gI zd_M_send_189 zf_M_201 rfl (fun v27 => ?_)
  refine J_dup_x1 zd_M_send_192 ?_
  refine J_iconst (v := 1) zd_M_send_193 (by decide) ?_
  refine J_iadd zd_M_send_194 ?_
  refine J_pI zd_M_send_195 zf_M_201 ⟨zt_M, zn_M, Or.inl rfl⟩ rfl rfl (fun μ28 => ?_)
  refine J_iload zd_M_send_198 rfl ?_
  refine J_aS zd_M_send_200 (fun μ29 => ?_)
  refine J_aload_n zd_M_send_201 rfl ?_
  refine J_gR zd_M_send_202 zf_M_50 rfl (fun r30 => ?_)
  refine J_iload_n zd_M_send_205 rfl ?_
  refine J_iload zd_M_send_206 rfl ?_
  refine J_aS zd_M_send_208 (fun μ31 => ?_)
  refine J_iload zd_M_send_209 rfl ?_
  exact J_iret zd_M_send_211 rfl (Nat.le_of_ble_eq_true rfl) (Nat.le_of_ble_eq_true rfl)
def b_M_send_115  (a0 : Nat) (a1 : Int32) (a2 : Int32) (a3 : Int32) (a5 : Int32) (s0 : Int32) (μ : Mem) : Option (LV × Mem) := (b_M_send_117 a0 a1 a2 a3 a5 s0 μ)
set_option maxRecDepth 20000 in
theorem j_M_send_115 (E : EV) (a0 : Nat) (a1 : Int32) (a2 : Int32) (a3 : Int32) (a5 : Int32) (s0 : Int32) (μ : Mem)  : J E I_M_send (rmk 5 0 0) (QR E I_M_send (rmk 5 0 0)) 0 0 μ 115 [some (.inr a0), some (.inl a1), some (.inl a2), some (.inl a3), none, some (.inl a5), none, none] [.inl s0] (b_M_send_115 a0 a1 a2 a3 a5 s0 μ) := by
  unfold b_M_send_115
  refine J_istore (lv' := [some _, some _, some _, some _, none, some _, some _, none]) zd_M_send_115 (Nat.le_of_ble_eq_true rfl) rfl ?_
  refine J_wid (k := 0) (n := 0) (Nat.le_of_ble_eq_true rfl) (Nat.le_of_ble_eq_true rfl) ?_
  refine J_keep [true, true, true, true, false, true, true, false] rfl ?_
  exact j_M_send_117 E _ _ _ _ _ _ _
def f_M_send (a0 : Nat) (a1 : Int32) (a2 : Int32) (a3 : Int32) (a4 : Int32) (μ : Mem) : Option (LV × Mem) := cV 10 a0 μ (bI (f_M_isBoat a0 a1 μ) (fun v33 μ32 => (if v33 = 0 then (b_M_send_16 a0 μ32) else cV 10 a0 μ32 (bI (f_M_isCall a0 a2 μ32) (fun v35 μ34 => (if v35 = 0 then (b_M_send_16 a0 μ34) else cV 10 a0 μ34 (bI (f_M_reached a0 a1 a2 μ34) (fun v37 μ36 => (if v37 = (-9) then (b_M_send_45 a0 μ36) else cV 10 a0 μ36 (bI (f_M_isAway a0 a1 μ36) (fun v39 μ38 => (if v39 = 0 then (if 0 ≤ a3 then (if 600 < a3 then (b_M_send_79 a0 μ38) else gI 10 a0 4 μ38 (fun v40 => (if v40 = 40 then (b_M_send_79 a0 μ38) else cV 10 a0 μ38 (bI (f_M_speedFor a0 a1 a2 μ38) (fun v42 μ41 => (if a4 = 0 then (b_M_send_117 a0 a1 a2 a3 v37 v42 μ41) else (if 1 ≤ (v42 / 2) then (b_M_send_115 a0 a1 a2 a3 v37 (v42 / 2) μ41) else (b_M_send_115 a0 a1 a2 a3 v37 1 μ41)))))))) else cV 10 a0 μ38 (bI (f_M_no a0 (-4) μ38) (fun v44 μ43 => (some (.inl v44, μ43))))) else (b_M_send_45 a0 μ38)))))))))))))
set_option maxRecDepth 20000 in
theorem c_M_send (E : EV) (a0 : Nat) (a1 : Int32) (a2 : Int32) (a3 : Int32) (a4 : Int32) (μ : Mem) : Ct E I_M_send (rmk 5 0 0) [.inr a0, .inl a1, .inl a2, .inl a3, .inl a4] μ (f_M_send a0 a1 a2 a3 a4 μ) := by
  refine Ct.of (k := 3) (by decide +kernel) rfl ?_
  show J E I_M_send (rmk 5 0 0) (QR E I_M_send (rmk 5 0 0)) 0 0 μ 0 [some (.inr a0), some (.inl a1), some (.inl a2), some (.inl a3), some (.inl a4), none, none, none] [] (f_M_send a0 a1 a2 a3 a4 μ)
  unfold f_M_send
  refine J_aload_n zd_M_send_0 rfl ?_
  refine J_iload_n zd_M_send_1 rfl ?_
  refine J_callVi (ci := 10) (as := [.inl _]) zd_M_send_2 zm_M_isBoat ⟨Nat.le_of_ble_eq_true rfl, Nat.le_of_ble_eq_true rfl⟩ zw_920 zw_922 zs_32 (by decide) rfl rfl (Nat.le_of_ble_eq_true rfl) ⟨Nat.le_of_ble_eq_true rfl, Nat.le_of_ble_eq_true rfl⟩ rfl rfl (c_M_isBoat E _ _ _) (fun v33 μ32 => ?_)
  refine J_if_eq (tgt := 16) zd_M_send_5 rfl ?_ ?_
  · refine J_wid (k := 0) (n := 0) (Nat.le_of_ble_eq_true rfl) (Nat.le_of_ble_eq_true rfl) ?_
    refine J_keep [true, false, false, false, false, false, false, false] rfl ?_
    exact j_M_send_16 E _ _
  · refine J_aload_n zd_M_send_8 rfl ?_
    refine J_iload_n zd_M_send_9 rfl ?_
    refine J_callVi (ci := 10) (as := [.inl _]) zd_M_send_10 zm_M_isCall ⟨Nat.le_of_ble_eq_true rfl, Nat.le_of_ble_eq_true rfl⟩ zw_940 zw_942 zs_34 (by decide) rfl rfl (Nat.le_of_ble_eq_true rfl) ⟨Nat.le_of_ble_eq_true rfl, Nat.le_of_ble_eq_true rfl⟩ rfl rfl (c_M_isCall E _ _ _) (fun v35 μ34 => ?_)
    refine J_if_ne (tgt := 22) zd_M_send_13 rfl ?_ ?_
    · refine J_aload_n zd_M_send_22 rfl ?_
      refine J_iload_n zd_M_send_23 rfl ?_
      refine J_iload_n zd_M_send_24 rfl ?_
      refine J_callVi (ci := 10) (as := [.inl _, .inl _]) zd_M_send_25 zm_M_reached ⟨Nat.le_of_ble_eq_true rfl, Nat.le_of_ble_eq_true rfl⟩ zw_962 zw_964 zs_38 (by decide) rfl rfl (Nat.le_of_ble_eq_true rfl) ⟨Nat.le_of_ble_eq_true rfl, Nat.le_of_ble_eq_true rfl⟩ rfl rfl (c_M_reached E _ _ _ _) (fun v37 μ36 => ?_)
      refine J_istore (lv' := [some _, some _, some _, some _, some _, some _, none, none]) zd_M_send_28 (Nat.le_of_ble_eq_true rfl) rfl ?_
      refine J_iload zd_M_send_30 rfl ?_
      refine J_bipush (v := (-9)) zd_M_send_32 (by decide) ?_
      refine J_icmp_eq (tgt := 45) zd_M_send_34 rfl ?_ ?_
      · refine J_wid (k := 0) (n := 0) (Nat.le_of_ble_eq_true rfl) (Nat.le_of_ble_eq_true rfl) ?_
        refine J_keep [true, false, false, false, false, false, false, false] rfl ?_
        exact j_M_send_45 E _ _
      · refine J_aload_n zd_M_send_37 rfl ?_
        refine J_iload_n zd_M_send_38 rfl ?_
        refine J_callVi (ci := 10) (as := [.inl _]) zd_M_send_39 zm_M_isAway ⟨Nat.le_of_ble_eq_true rfl, Nat.le_of_ble_eq_true rfl⟩ zw_928 zw_930 zs_33 (by decide) rfl rfl (Nat.le_of_ble_eq_true rfl) ⟨Nat.le_of_ble_eq_true rfl, Nat.le_of_ble_eq_true rfl⟩ rfl rfl (c_M_isAway E _ _ _) (fun v39 μ38 => ?_)
        refine J_if_eq (tgt := 52) zd_M_send_42 rfl ?_ ?_
        · refine J_iload_n zd_M_send_52 rfl ?_
          refine J_if_ge (tgt := 63) zd_M_send_53 rfl ?_ ?_
          · refine J_iload_n zd_M_send_63 rfl ?_
            refine J_sipush (v := 600) zd_M_send_64 (by decide) ?_
            refine J_icmp_gt (tgt := 79) zd_M_send_67 rfl ?_ ?_
            · refine J_wid (k := 0) (n := 0) (Nat.le_of_ble_eq_true rfl) (Nat.le_of_ble_eq_true rfl) ?_
              refine J_keep [true, false, false, false, false, false, false, false] rfl ?_
              exact j_M_send_79 E _ _
            · refine J_aload_n zd_M_send_70 rfl ?_
              refine J_gI zd_M_send_71 zf_M_201 rfl (fun v40 => ?_)
              refine J_bipush (v := 40) zd_M_send_74 (by decide) ?_
              refine J_icmp_ne (tgt := 86) zd_M_send_76 rfl ?_ ?_
              · refine J_aload_n zd_M_send_86 rfl ?_
                refine J_iload_n zd_M_send_87 rfl ?_
                refine J_iload_n zd_M_send_88 rfl ?_
                refine J_callVi (ci := 10) (as := [.inl _, .inl _]) zd_M_send_89 zm_M_speedFor ⟨Nat.le_of_ble_eq_true rfl, Nat.le_of_ble_eq_true rfl⟩ zw_948 zw_950 zs_36 (by decide) rfl rfl (Nat.le_of_ble_eq_true rfl) ⟨Nat.le_of_ble_eq_true rfl, Nat.le_of_ble_eq_true rfl⟩ rfl rfl (c_M_speedFor E _ _ _ _) (fun v42 μ41 => ?_)
                refine J_istore (lv' := [some _, some _, some _, some _, some _, some _, some _, none]) zd_M_send_92 (Nat.le_of_ble_eq_true rfl) rfl ?_
                refine J_iload zd_M_send_94 rfl ?_
                refine J_if_eq (tgt := 117) zd_M_send_96 rfl ?_ ?_
                · refine J_wid (k := 0) (n := 0) (Nat.le_of_ble_eq_true rfl) (Nat.le_of_ble_eq_true rfl) ?_
                  refine J_keep [true, true, true, true, false, true, true, false] rfl ?_
                  exact j_M_send_117 E _ _ _ _ _ _ _
                · refine J_iload zd_M_send_99 rfl ?_
                  refine J_iconst (v := 2) zd_M_send_101 (by decide) ?_
                  refine J_idivL zd_M_send_102 (by decide) ?_
                  refine J_iconst (v := 1) zd_M_send_103 (by decide) ?_
                  refine J_icmp_ge (tgt := 111) zd_M_send_104 rfl ?_ ?_
                  · refine J_iload zd_M_send_111 rfl ?_
                    refine J_iconst (v := 2) zd_M_send_113 (by decide) ?_
                    refine J_idivL zd_M_send_114 (by decide) ?_
                    refine J_wid (k := 0) (n := 0) (Nat.le_of_ble_eq_true rfl) (Nat.le_of_ble_eq_true rfl) ?_
                    refine J_keep [true, true, true, true, false, true, false, false] rfl ?_
                    exact j_M_send_115 E _ _ _ _ _ _ _
                  · refine J_iconst (v := 1) zd_M_send_107 (by decide) ?_
                    refine J_goto (tgt := 115) zd_M_send_108 rfl ?_
                    refine J_wid (k := 0) (n := 0) (Nat.le_of_ble_eq_true rfl) (Nat.le_of_ble_eq_true rfl) ?_
                    refine J_keep [true, true, true, true, false, true, false, false] rfl ?_
                    exact j_M_send_115 E _ _ _ _ _ _ _
              · refine J_wid (k := 0) (n := 0) (Nat.le_of_ble_eq_true rfl) (Nat.le_of_ble_eq_true rfl) ?_
                refine J_keep [true, false, false, false, false, false, false, false] rfl ?_
                exact j_M_send_79 E _ _
          · refine J_aload_n zd_M_send_56 rfl ?_
            refine J_bipush (v := (-4)) zd_M_send_57 (by decide) ?_
            refine J_callVi (ci := 10) (as := [.inl _]) zd_M_send_59 zm_M_no ⟨Nat.le_of_ble_eq_true rfl, Nat.le_of_ble_eq_true rfl⟩ zw_821 zw_823 zs_22 (by decide) rfl rfl (Nat.le_of_ble_eq_true rfl) ⟨Nat.le_of_ble_eq_true rfl, Nat.le_of_ble_eq_true rfl⟩ rfl rfl (c_M_no E _ _ _) (fun v44 μ43 => ?_)
            exact J_iret zd_M_send_62 rfl (Nat.le_of_ble_eq_true rfl) (Nat.le_of_ble_eq_true rfl)
        · refine J_wid (k := 0) (n := 0) (Nat.le_of_ble_eq_true rfl) (Nat.le_of_ble_eq_true rfl) ?_
          refine J_keep [true, false, false, false, false, false, false, false] rfl ?_
          exact j_M_send_45 E _ _
    · refine J_wid (k := 0) (n := 0) (Nat.le_of_ble_eq_true rfl) (Nat.le_of_ble_eq_true rfl) ?_
      refine J_keep [true, false, false, false, false, false, false, false] rfl ?_
      exact j_M_send_16 E _ _
def b_M_log_9  (a0 : Nat)  (μ : Mem) : Option (LV × Mem) := cV 10 a0 μ (bI (f_M_no a0 (-2) μ) (fun v2 μ1 => (some (.inl v2, μ1))))
set_option maxRecDepth 20000 in
theorem j_M_log_9 (E : EV) (a0 : Nat)  (μ : Mem)  : J E I_M_log (rmk 2 0 0) (QR E I_M_log (rmk 2 0 0)) 0 0 μ 9 [some (.inr a0), none, none] [] (b_M_log_9 a0 μ) := by
  unfold b_M_log_9
  refine J_aload_n zd_M_log_9 rfl ?_
  refine J_bipush (v := (-2)) zd_M_log_10 (by decide) ?_
  refine J_callVi (ci := 10) (as := [.inl _]) zd_M_log_12 zm_M_no ⟨Nat.le_of_ble_eq_true rfl, Nat.le_of_ble_eq_true rfl⟩ zw_821 zw_823 zs_22 (by decide) rfl rfl (Nat.le_of_ble_eq_true rfl) ⟨Nat.le_of_ble_eq_true rfl, Nat.le_of_ble_eq_true rfl⟩ rfl rfl (c_M_no E _ _ _) (fun v2 μ1 => ?_)
  exact J_iret zd_M_log_15 rfl (Nat.le_of_ble_eq_true rfl) (Nat.le_of_ble_eq_true rfl)
def f_M_log (a0 : Nat) (a1 : Int32) (a2 : Int32) (μ : Mem) : Option (LV × Mem) := (if a2 < 0 then (b_M_log_9 a0 μ) else (if a2 ≤ 4 then (if a1 < 0 then (some (.inl (-9), μ)) else gI 10 a0 4 μ (fun v3 => (if a1 < v3 then (if a2 = 0 then gR 10 a0 23 μ (fun r12 => aI r12 a1 μ (fun v13 => (some (.inl v13, μ)))) else (if a2 = 1 then gR 10 a0 24 μ (fun r10 => aI r10 a1 μ (fun v11 => (some (.inl v11, μ)))) else (if a2 = 2 then gR 10 a0 25 μ (fun r8 => aI r8 a1 μ (fun v9 => (some (.inl v9, μ)))) else (if a2 = 3 then gR 10 a0 26 μ (fun r6 => aI r6 a1 μ (fun v7 => (some (.inl v7, μ)))) else gR 10 a0 27 μ (fun r4 => aI r4 a1 μ (fun v5 => (some (.inl v5, μ)))))))) else (some (.inl (-9), μ))))) else (b_M_log_9 a0 μ)))
set_option maxRecDepth 20000 in
theorem c_M_log (E : EV) (a0 : Nat) (a1 : Int32) (a2 : Int32) (μ : Mem) : Ct E I_M_log (rmk 2 0 0) [.inr a0, .inl a1, .inl a2] μ (f_M_log a0 a1 a2 μ) := by
  refine Ct.of (k := 0) (by decide +kernel) rfl ?_
  show J E I_M_log (rmk 2 0 0) (QR E I_M_log (rmk 2 0 0)) 0 0 μ 0 [some (.inr a0), some (.inl a1), some (.inl a2)] [] (f_M_log a0 a1 a2 μ)
  unfold f_M_log
  refine J_iload_n zd_M_log_0 rfl ?_
  refine J_if_lt (tgt := 9) zd_M_log_1 rfl ?_ ?_
  · refine J_wid (k := 0) (n := 0) (Nat.le_of_ble_eq_true rfl) (Nat.le_of_ble_eq_true rfl) ?_
    refine J_keep [true, false, false] rfl ?_
    exact j_M_log_9 E _ _
  · refine J_iload_n zd_M_log_4 rfl ?_
    refine J_iconst (v := 4) zd_M_log_5 (by decide) ?_
    refine J_icmp_le (tgt := 16) zd_M_log_6 rfl ?_ ?_
    · refine J_iload_n zd_M_log_16 rfl ?_
      refine J_if_lt (tgt := 28) zd_M_log_17 rfl ?_ ?_
      · refine J_bipush (v := (-9)) zd_M_log_28 (by decide) ?_
        exact J_iret zd_M_log_30 rfl (Nat.le_of_ble_eq_true rfl) (Nat.le_of_ble_eq_true rfl)
      · refine J_iload_n zd_M_log_20 rfl ?_
        refine J_aload_n zd_M_log_21 rfl ?_
        refine J_gI zd_M_log_22 zf_M_201 rfl (fun v3 => ?_)
        refine J_icmp_lt (tgt := 31) zd_M_log_25 rfl ?_ ?_
        · refine J_iload_n zd_M_log_31 rfl ?_
          refine J_if_ne (tgt := 44) zd_M_log_32 rfl ?_ ?_
          · refine J_iload_n zd_M_log_44 rfl ?_
            refine J_iconst (v := 1) zd_M_log_45 (by decide) ?_
            refine J_icmp_ne (tgt := 58) zd_M_log_46 rfl ?_ ?_
            · refine J_iload_n zd_M_log_58 rfl ?_
              refine J_iconst (v := 2) zd_M_log_59 (by decide) ?_
              refine J_icmp_ne (tgt := 72) zd_M_log_60 rfl ?_ ?_
              · refine J_iload_n zd_M_log_72 rfl ?_
                refine J_iconst (v := 3) zd_M_log_73 (by decide) ?_
                refine J_icmp_ne (tgt := 86) zd_M_log_74 rfl ?_ ?_
                · refine J_aload_n zd_M_log_86 rfl ?_
                  refine J_gR zd_M_log_87 zf_M_77 rfl (fun r4 => ?_)
                  refine J_iload_n zd_M_log_90 rfl ?_
                  refine J_aI zd_M_log_91 (fun v5 => ?_)
                  exact J_iret zd_M_log_92 rfl (Nat.le_of_ble_eq_true rfl) (Nat.le_of_ble_eq_true rfl)
                · refine J_aload_n zd_M_log_77 rfl ?_
                  refine J_gR zd_M_log_78 zf_M_74 rfl (fun r6 => ?_)
                  refine J_iload_n zd_M_log_81 rfl ?_
                  refine J_aI zd_M_log_82 (fun v7 => ?_)
                  refine J_goto (tgt := 92) zd_M_log_83 rfl ?_
                  exact J_iret zd_M_log_92 rfl (Nat.le_of_ble_eq_true rfl) (Nat.le_of_ble_eq_true rfl)
              · refine J_aload_n zd_M_log_63 rfl ?_
                refine J_gR zd_M_log_64 zf_M_71 rfl (fun r8 => ?_)
                refine J_iload_n zd_M_log_67 rfl ?_
                refine J_aI zd_M_log_68 (fun v9 => ?_)
                refine J_goto (tgt := 92) zd_M_log_69 rfl ?_
                exact J_iret zd_M_log_92 rfl (Nat.le_of_ble_eq_true rfl) (Nat.le_of_ble_eq_true rfl)
            · refine J_aload_n zd_M_log_49 rfl ?_
              refine J_gR zd_M_log_50 zf_M_68 rfl (fun r10 => ?_)
              refine J_iload_n zd_M_log_53 rfl ?_
              refine J_aI zd_M_log_54 (fun v11 => ?_)
              refine J_goto (tgt := 92) zd_M_log_55 rfl ?_
              exact J_iret zd_M_log_92 rfl (Nat.le_of_ble_eq_true rfl) (Nat.le_of_ble_eq_true rfl)
          · refine J_aload_n zd_M_log_35 rfl ?_
            refine J_gR zd_M_log_36 zf_M_65 rfl (fun r12 => ?_)
            refine J_iload_n zd_M_log_39 rfl ?_
            refine J_aI zd_M_log_40 (fun v13 => ?_)
            refine J_goto (tgt := 92) zd_M_log_41 rfl ?_
            exact J_iret zd_M_log_92 rfl (Nat.le_of_ble_eq_true rfl) (Nat.le_of_ble_eq_true rfl)
        · refine J_bipush (v := (-9)) zd_M_log_28 (by decide) ?_
          exact J_iret zd_M_log_30 rfl (Nat.le_of_ble_eq_true rfl) (Nat.le_of_ble_eq_true rfl)
    · refine J_wid (k := 0) (n := 0) (Nat.le_of_ble_eq_true rfl) (Nat.le_of_ble_eq_true rfl) ?_
      refine J_keep [true, false, false] rfl ?_
      exact j_M_log_9 E _ _
def b_M_standing_33 (c4 : Int32 → Int32 → Mem → Option (LV × Mem)) (a0 : Nat) (a1 : Int32) (a2 : Int32) (a3 : Int32)  (μ : Mem) : Option (LV × Mem) := (c4 a2 (a3 + 1) μ)
set_option maxRecDepth 20000 in
theorem j_M_standing_33 (E : EV) (a0 : Nat) (a1 : Int32) (a2 : Int32) (a3 : Int32)  (μ : Mem) {c4 : Int32 → Int32 → Mem → Option (LV × Mem)} (h4 : ∀ (b2 : Int32) (b3 : Int32)  (μ : Mem), J E I_M_standing (rmk 2 0 0) (QR E I_M_standing (rmk 2 0 0)) 0 0 μ 4 [some (.inr a0), some (.inl a1), some (.inl b2), some (.inl b3)] [] (c4 b2 b3 μ)) : J E I_M_standing (rmk 2 0 0) (QR E I_M_standing (rmk 2 0 0)) 0 0 μ 33 [some (.inr a0), some (.inl a1), some (.inl a2), some (.inl a3)] [] (b_M_standing_33 c4 a0 a1 a2 a3 μ) := by
  unfold b_M_standing_33
  refine J_iinc (v := _ + 1) (lv' := [some _, some _, some _, some _]) zd_M_standing_33 (Nat.le_of_ble_eq_true rfl) rfl (by rfl) rfl ?_
  refine J_goto (tgt := 4) zd_M_standing_36 rfl ?_
  refine J_wid (k := 0) (n := 0) (Nat.le_of_ble_eq_true rfl) (Nat.le_of_ble_eq_true rfl) ?_
  refine J_keep [true, true, true, true] rfl ?_
  exact h4 _ _ _
def k_M_standing_4  (a0 : Nat) (a1 : Int32) : Nat → Int32 → Int32 → Mem → Option (LV × Mem)
  | 0, _, _, _ => none
  | n + 1, a2, a3, μ => gI 10 a0 2 μ (fun v1 => (if v1 ≤ a3 then (some (.inl a2, μ)) else gR 10 a0 16 μ (fun r2 => aI r2 a3 μ (fun v3 => (if v3 = a1 then cV 10 a0 μ (bI (f_M_isAway a0 a3 μ) (fun v5 μ4 => (if v5 = 0 then (b_M_standing_33 (k_M_standing_4 a0 a1 n) a0 a1 (a2 + 1) a3 μ4) else (b_M_standing_33 (k_M_standing_4 a0 a1 n) a0 a1 a2 a3 μ4)))) else (b_M_standing_33 (k_M_standing_4 a0 a1 n) a0 a1 a2 a3 μ))))))
set_option maxRecDepth 20000 in
theorem j_M_standing_4 (E : EV) (a0 : Nat) (a1 : Int32)  : ∀ (n : Nat) (a2 : Int32) (a3 : Int32) (μ : Mem), J E I_M_standing (rmk 2 0 0) (QR E I_M_standing (rmk 2 0 0)) 0 0 μ 4 [some (.inr a0), some (.inl a1), some (.inl a2), some (.inl a3)] [] (k_M_standing_4 a0 a1 n a2 a3 μ)
  | 0, _, _, _ => J_none
  | n + 1, a2, a3, μ => by
    show J E I_M_standing (rmk 2 0 0) (QR E I_M_standing (rmk 2 0 0)) 0 0 μ 4 [some (.inr a0), some (.inl a1), some (.inl a2), some (.inl a3)] [] (gI 10 a0 2 μ (fun v1 => (if v1 ≤ a3 then (some (.inl a2, μ)) else gR 10 a0 16 μ (fun r2 => aI r2 a3 μ (fun v3 => (if v3 = a1 then cV 10 a0 μ (bI (f_M_isAway a0 a3 μ) (fun v5 μ4 => (if v5 = 0 then (b_M_standing_33 (k_M_standing_4 a0 a1 n) a0 a1 (a2 + 1) a3 μ4) else (b_M_standing_33 (k_M_standing_4 a0 a1 n) a0 a1 a2 a3 μ4)))) else (b_M_standing_33 (k_M_standing_4 a0 a1 n) a0 a1 a2 a3 μ)))))))
    refine J_iload_n zd_M_standing_4 rfl ?_
    refine J_aload_n zd_M_standing_5 rfl ?_
    refine J_gI zd_M_standing_6 zf_M_113 rfl (fun v1 => ?_)
    refine J_icmp_ge (tgt := 39) zd_M_standing_9 rfl ?_ ?_
    · refine J_iload_n zd_M_standing_39 rfl ?_
      exact J_iret zd_M_standing_40 rfl (Nat.le_of_ble_eq_true rfl) (Nat.le_of_ble_eq_true rfl)
    · refine J_aload_n zd_M_standing_12 rfl ?_
      refine J_gR zd_M_standing_13 zf_M_44 rfl (fun r2 => ?_)
      refine J_iload_n zd_M_standing_16 rfl ?_
      refine J_aI zd_M_standing_17 (fun v3 => ?_)
      refine J_iload_n zd_M_standing_18 rfl ?_
      refine J_icmp_ne (tgt := 33) zd_M_standing_19 rfl ?_ ?_
      · refine J_wid (k := 0) (n := 0) (Nat.le_of_ble_eq_true rfl) (Nat.le_of_ble_eq_true rfl) ?_
        refine J_keep [true, true, true, true] rfl ?_
        exact j_M_standing_33 E _ _ _ _ _ (j_M_standing_4 E a0 a1 n)
      · refine J_aload_n zd_M_standing_22 rfl ?_
        refine J_iload_n zd_M_standing_23 rfl ?_
        refine J_callVi (ci := 10) (as := [.inl _]) zd_M_standing_24 zm_M_isAway ⟨Nat.le_of_ble_eq_true rfl, Nat.le_of_ble_eq_true rfl⟩ zw_928 zw_930 zs_33 (by decide) rfl rfl (Nat.le_of_ble_eq_true rfl) ⟨Nat.le_of_ble_eq_true rfl, Nat.le_of_ble_eq_true rfl⟩ rfl rfl (c_M_isAway E _ _ _) (fun v5 μ4 => ?_)
        refine J_if_ne (tgt := 33) zd_M_standing_27 rfl ?_ ?_
        · refine J_wid (k := 0) (n := 0) (Nat.le_of_ble_eq_true rfl) (Nat.le_of_ble_eq_true rfl) ?_
          refine J_keep [true, true, true, true] rfl ?_
          exact j_M_standing_33 E _ _ _ _ _ (j_M_standing_4 E a0 a1 n)
        · refine J_iinc (v := _ + 1) (lv' := [some _, some _, some _, some _]) zd_M_standing_30 (Nat.le_of_ble_eq_true rfl) rfl (by rfl) rfl ?_
          refine J_wid (k := 0) (n := 0) (Nat.le_of_ble_eq_true rfl) (Nat.le_of_ble_eq_true rfl) ?_
          refine J_keep [true, true, true, true] rfl ?_
          exact j_M_standing_33 E _ _ _ _ _ (j_M_standing_4 E a0 a1 n)
def f_M_standing (a0 : Nat) (a1 : Int32) (μ : Mem) : Option (LV × Mem) := (k_M_standing_4 a0 a1 120000 0 0 μ)
set_option maxRecDepth 20000 in
theorem c_M_standing (E : EV) (a0 : Nat) (a1 : Int32) (μ : Mem) : Ct E I_M_standing (rmk 2 0 0) [.inr a0, .inl a1] μ (f_M_standing a0 a1 μ) := by
  refine Ct.of (k := 2) (by decide +kernel) rfl ?_
  show J E I_M_standing (rmk 2 0 0) (QR E I_M_standing (rmk 2 0 0)) 0 0 μ 0 [some (.inr a0), some (.inl a1), none, none] [] (f_M_standing a0 a1 μ)
  unfold f_M_standing
  refine J_iconst (v := 0) zd_M_standing_0 (by decide) ?_
  refine J_istore_n (lv' := [some _, some _, some _, none]) zd_M_standing_1 (Nat.le_of_ble_eq_true rfl) rfl ?_
  refine J_iconst (v := 0) zd_M_standing_2 (by decide) ?_
  refine J_istore_n (lv' := [some _, some _, some _, some _]) zd_M_standing_3 (Nat.le_of_ble_eq_true rfl) rfl ?_
  refine J_wid (k := 0) (n := 0) (Nat.le_of_ble_eq_true rfl) (Nat.le_of_ble_eq_true rfl) ?_
  refine J_keep [true, true, true, true] rfl ?_
  exact j_M_standing_4 E _ _ _ _ _ _
def f_M_covered (a0 : Nat) (a1 : Int32) (μ : Mem) : Option (LV × Mem) := bI (f_M_isStation a1 μ) (fun v2 μ1 => (if v2 = 0 then cV 10 a0 μ1 (bI (f_M_no a0 (-1) μ1) (fun v4 μ3 => (some (.inl v4, μ3)))) else cV 10 a0 μ1 (bI (f_M_standing a0 a1 μ1) (fun v6 μ5 => (if v6 ≤ 0 then (some (.inl 0, μ5)) else (some (.inl 1, μ5)))))))
set_option maxRecDepth 20000 in
theorem c_M_covered (E : EV) (a0 : Nat) (a1 : Int32) (μ : Mem) : Ct E I_M_covered (rmk 3 0 0) [.inr a0, .inl a1] μ (f_M_covered a0 a1 μ) := by
  refine Ct.of (k := 0) (by decide +kernel) rfl ?_
  show J E I_M_covered (rmk 3 0 0) (QR E I_M_covered (rmk 3 0 0)) 0 0 μ 0 [some (.inr a0), some (.inl a1)] [] (f_M_covered a0 a1 μ)
  unfold f_M_covered
  refine J_iload_n zd_M_covered_0 rfl ?_
  refine J_callSi (as := [.inl _]) zd_M_covered_1 zm_M_isStation ⟨Nat.le_of_ble_eq_true rfl, Nat.le_of_ble_eq_true rfl⟩ zw_818 zw_819 rfl (Nat.le_of_ble_eq_true rfl) ⟨Nat.le_of_ble_eq_true rfl, Nat.le_of_ble_eq_true rfl⟩ rfl rfl (c_M_isStation E _ _) (fun v2 μ1 => ?_)
  refine J_if_eq (tgt := 23) zd_M_covered_4 rfl ?_ ?_
  · refine J_aload_n zd_M_covered_23 rfl ?_
    refine J_iconst (v := (-1)) zd_M_covered_24 (by decide) ?_
    refine J_callVi (ci := 10) (as := [.inl _]) zd_M_covered_25 zm_M_no ⟨Nat.le_of_ble_eq_true rfl, Nat.le_of_ble_eq_true rfl⟩ zw_821 zw_823 zs_22 (by decide) rfl rfl (Nat.le_of_ble_eq_true rfl) ⟨Nat.le_of_ble_eq_true rfl, Nat.le_of_ble_eq_true rfl⟩ rfl rfl (c_M_no E _ _ _) (fun v4 μ3 => ?_)
    exact J_iret zd_M_covered_28 rfl (Nat.le_of_ble_eq_true rfl) (Nat.le_of_ble_eq_true rfl)
  · refine J_aload_n zd_M_covered_7 rfl ?_
    refine J_iload_n zd_M_covered_8 rfl ?_
    refine J_callVi (ci := 10) (as := [.inl _]) zd_M_covered_9 zm_M_standing ⟨Nat.le_of_ble_eq_true rfl, Nat.le_of_ble_eq_true rfl⟩ zw_990 zw_992 zs_40 (by decide) rfl rfl (Nat.le_of_ble_eq_true rfl) ⟨Nat.le_of_ble_eq_true rfl, Nat.le_of_ble_eq_true rfl⟩ rfl rfl (c_M_standing E _ _ _) (fun v6 μ5 => ?_)
    refine J_if_le (tgt := 19) zd_M_covered_12 rfl ?_ ?_
    · refine J_iconst (v := 0) zd_M_covered_19 (by decide) ?_
      refine J_goto (tgt := 28) zd_M_covered_20 rfl ?_
      exact J_iret zd_M_covered_28 rfl (Nat.le_of_ble_eq_true rfl) (Nat.le_of_ble_eq_true rfl)
    · refine J_iconst (v := 1) zd_M_covered_15 (by decide) ?_
      refine J_goto (tgt := 28) zd_M_covered_16 rfl ?_
      exact J_iret zd_M_covered_28 rfl (Nat.le_of_ble_eq_true rfl) (Nat.le_of_ble_eq_true rfl)
def b_M_helps_36 (c4 : Int32 → Int32 → Mem → Option (LV × Mem)) (a0 : Nat) (a1 : Int32) (a2 : Int32)  (μ : Mem) : Option (LV × Mem) := (c4 a1 (a2 + 1) μ)
set_option maxRecDepth 20000 in
theorem j_M_helps_36 (E : EV) (a0 : Nat) (a1 : Int32) (a2 : Int32)  (μ : Mem) {c4 : Int32 → Int32 → Mem → Option (LV × Mem)} (h4 : ∀ (b1 : Int32) (b2 : Int32)  (μ : Mem), J E I_M_helps (rmk 3 0 0) (QR E I_M_helps (rmk 3 0 0)) 0 0 μ 4 [some (.inr a0), some (.inl b1), some (.inl b2), none, none, none, none, none, none, none, none] [] (c4 b1 b2 μ)) : J E I_M_helps (rmk 3 0 0) (QR E I_M_helps (rmk 3 0 0)) 0 0 μ 36 [some (.inr a0), some (.inl a1), some (.inl a2), none, none, none, none, none, none, none, none] [] (b_M_helps_36 c4 a0 a1 a2 μ) := by
  unfold b_M_helps_36
  refine J_iinc (v := _ + 1) (lv' := [some _, some _, some _, none, none, none, none, none, none, none, none]) zd_M_helps_36 (Nat.le_of_ble_eq_true rfl) rfl (by rfl) rfl ?_
  refine J_goto (tgt := 4) zd_M_helps_39 rfl ?_
  refine J_wid (k := 0) (n := 0) (Nat.le_of_ble_eq_true rfl) (Nat.le_of_ble_eq_true rfl) ?_
  refine J_keep [true, true, true, false, false, false, false, false, false, false, false] rfl ?_
  exact h4 _ _ _
def k_M_helps_4 (c42 : Nat → Int32 → Mem → Option (LV × Mem)) (a0 : Nat) : Nat → Int32 → Int32 → Mem → Option (LV × Mem)
  | 0, _, _, _ => none
  | n + 1, a1, a2, μ => (if 6 ≤ a2 then (c42 a0 a1 μ) else gR 10 a0 37 μ (fun r1 => aS r1 a2 6 μ (fun μ2 => cV 10 a0 μ2 (bI (f_M_standing a0 a2 μ2) (fun v4 μ3 => (if v4 = 0 then gR 10 a0 34 μ3 (fun r5 => aS r5 a1 a2 μ3 (fun μ6 => (b_M_helps_36 (k_M_helps_4 c42 a0 n) a0 (a1 + 1) a2 μ6))) else (b_M_helps_36 (k_M_helps_4 c42 a0 n) a0 a1 a2 μ3)))))))
set_option maxRecDepth 20000 in
theorem j_M_helps_4 (E : EV) (a0 : Nat) {c42 : Nat → Int32 → Mem → Option (LV × Mem)} (h42 : ∀ (b0 : Nat) (b1 : Int32)  (μ : Mem), J E I_M_helps (rmk 3 0 0) (QR E I_M_helps (rmk 3 0 0)) 0 0 μ 42 [some (.inr b0), some (.inl b1), none, none, none, none, none, none, none, none, none] [] (c42 b0 b1 μ)) : ∀ (n : Nat) (a1 : Int32) (a2 : Int32) (μ : Mem), J E I_M_helps (rmk 3 0 0) (QR E I_M_helps (rmk 3 0 0)) 0 0 μ 4 [some (.inr a0), some (.inl a1), some (.inl a2), none, none, none, none, none, none, none, none] [] (k_M_helps_4 c42 a0 n a1 a2 μ)
  | 0, _, _, _ => J_none
  | n + 1, a1, a2, μ => by
    show J E I_M_helps (rmk 3 0 0) (QR E I_M_helps (rmk 3 0 0)) 0 0 μ 4 [some (.inr a0), some (.inl a1), some (.inl a2), none, none, none, none, none, none, none, none] [] ((if 6 ≤ a2 then (c42 a0 a1 μ) else gR 10 a0 37 μ (fun r1 => aS r1 a2 6 μ (fun μ2 => cV 10 a0 μ2 (bI (f_M_standing a0 a2 μ2) (fun v4 μ3 => (if v4 = 0 then gR 10 a0 34 μ3 (fun r5 => aS r5 a1 a2 μ3 (fun μ6 => (b_M_helps_36 (k_M_helps_4 c42 a0 n) a0 (a1 + 1) a2 μ6))) else (b_M_helps_36 (k_M_helps_4 c42 a0 n) a0 a1 a2 μ3))))))))
    refine J_iload_n zd_M_helps_4 rfl ?_
    refine J_bipush (v := 6) zd_M_helps_5 (by decide) ?_
    refine J_icmp_ge (tgt := 42) zd_M_helps_7 rfl ?_ ?_
    · refine J_wid (k := 0) (n := 0) (Nat.le_of_ble_eq_true rfl) (Nat.le_of_ble_eq_true rfl) ?_
      refine J_keep [true, true, false, false, false, false, false, false, false, false, false] rfl ?_
      exact h42 _ _ _
    · refine J_aload_n zd_M_helps_10 rfl ?_
      refine J_gR zd_M_helps_11 zf_M_107 rfl (fun r1 => ?_)
      refine J_iload_n zd_M_helps_14 rfl ?_
      refine J_bipush (v := 6) zd_M_helps_15 (by decide) ?_
      refine J_aS zd_M_helps_17 (fun μ2 => ?_)
      refine J_aload_n zd_M_helps_18 rfl ?_
      refine J_iload_n zd_M_helps_19 rfl ?_
      refine J_callVi (ci := 10) (as := [.inl _]) zd_M_helps_20 zm_M_standing ⟨Nat.le_of_ble_eq_true rfl, Nat.le_of_ble_eq_true rfl⟩ zw_990 zw_992 zs_40 (by decide) rfl rfl (Nat.le_of_ble_eq_true rfl) ⟨Nat.le_of_ble_eq_true rfl, Nat.le_of_ble_eq_true rfl⟩ rfl rfl (c_M_standing E _ _ _) (fun v4 μ3 => ?_)
      refine J_if_ne (tgt := 36) zd_M_helps_23 rfl ?_ ?_
      · refine J_wid (k := 0) (n := 0) (Nat.le_of_ble_eq_true rfl) (Nat.le_of_ble_eq_true rfl) ?_
        refine J_keep [true, true, true, false, false, false, false, false, false, false, false] rfl ?_
        exact j_M_helps_36 E _ _ _ _ (j_M_helps_4 E a0 h42 n)
      · refine J_aload_n zd_M_helps_26 rfl ?_
        refine J_gR zd_M_helps_27 zf_M_98 rfl (fun r5 => ?_)
        refine J_iload_n zd_M_helps_30 rfl ?_
        refine J_iinc (v := _ + 1) (lv' := [some _, some _, some _, none, none, none, none, none, none, none, none]) zd_M_helps_31 (Nat.le_of_ble_eq_true rfl) rfl (by rfl) rfl ?_
        refine J_iload_n zd_M_helps_34 rfl ?_
        refine J_aS zd_M_helps_35 (fun μ6 => ?_)
        refine J_wid (k := 0) (n := 0) (Nat.le_of_ble_eq_true rfl) (Nat.le_of_ble_eq_true rfl) ?_
        refine J_keep [true, true, true, false, false, false, false, false, false, false, false] rfl ?_
        exact j_M_helps_36 E _ _ _ _ (j_M_helps_4 E a0 h42 n)
def k_M_helps_56 (c72 : Nat → Int32 → Int32 → Mem → Option (LV × Mem)) (a0 : Nat) (a1 : Int32) : Nat → Int32 → Int32 → Mem → Option (LV × Mem)
  | 0, _, _, _ => none
  | n + 1, a2, a3, μ => (if a1 ≤ a3 then (c72 a0 a1 a2 μ) else nm (a2 * 7) (fun v7 => (k_M_helps_56 c72 a0 a1 n v7 (a3 + 1) μ)))
set_option maxRecDepth 20000 in
theorem j_M_helps_56 (E : EV) (a0 : Nat) (a1 : Int32) {c72 : Nat → Int32 → Int32 → Mem → Option (LV × Mem)} (h72 : ∀ (b0 : Nat) (b1 : Int32) (b2 : Int32)  (μ : Mem), J E I_M_helps (rmk 3 0 0) (QR E I_M_helps (rmk 3 0 0)) 0 0 μ 72 [some (.inr b0), some (.inl b1), some (.inl b2), none, none, none, none, none, none, none, none] [] (c72 b0 b1 b2 μ)) : ∀ (n : Nat) (a2 : Int32) (a3 : Int32) (μ : Mem), J E I_M_helps (rmk 3 0 0) (QR E I_M_helps (rmk 3 0 0)) 0 0 μ 56 [some (.inr a0), some (.inl a1), some (.inl a2), some (.inl a3), none, none, none, none, none, none, none] [] (k_M_helps_56 c72 a0 a1 n a2 a3 μ)
  | 0, _, _, _ => J_none
  | n + 1, a2, a3, μ => by
    show J E I_M_helps (rmk 3 0 0) (QR E I_M_helps (rmk 3 0 0)) 0 0 μ 56 [some (.inr a0), some (.inl a1), some (.inl a2), some (.inl a3), none, none, none, none, none, none, none] [] ((if a1 ≤ a3 then (c72 a0 a1 a2 μ) else nm (a2 * 7) (fun v7 => (k_M_helps_56 c72 a0 a1 n v7 (a3 + 1) μ))))
    refine J_iload_n zd_M_helps_56 rfl ?_
    refine J_iload_n zd_M_helps_57 rfl ?_
    refine J_icmp_ge (tgt := 72) zd_M_helps_58 rfl ?_ ?_
    · refine J_wid (k := 0) (n := 0) (Nat.le_of_ble_eq_true rfl) (Nat.le_of_ble_eq_true rfl) ?_
      refine J_keep [true, true, true, false, false, false, false, false, false, false, false] rfl ?_
      exact h72 _ _ _ _
    · refine J_iload_n zd_M_helps_61 rfl ?_
      refine J_bipush (v := 7) zd_M_helps_62 (by decide) ?_
      refine J_imul zd_M_helps_64 ?_
      refine J_nm (fun v7 => ?_)
      refine J_istore_n (lv' := [some _, some _, some _, some _, none, none, none, none, none, none, none]) zd_M_helps_65 (Nat.le_of_ble_eq_true rfl) rfl ?_
      refine J_iinc (v := _ + 1) (lv' := [some _, some _, some _, some _, none, none, none, none, none, none, none]) zd_M_helps_66 (Nat.le_of_ble_eq_true rfl) rfl (by rfl) rfl ?_
      refine J_goto (tgt := 56) zd_M_helps_69 rfl ?_
      refine J_wid (k := 0) (n := 0) (Nat.le_of_ble_eq_true rfl) (Nat.le_of_ble_eq_true rfl) ?_
      refine J_keep [true, true, true, true, false, false, false, false, false, false, false] rfl ?_
      exact j_M_helps_56 E a0 a1 h72 n _ _ _
def k_M_helps_86 (c114 : Int32 → Int32 → Mem → Option (LV × Mem)) (a0 : Nat) (a1 : Int32) (a2 : Int32) (a3 : Int32) (a4 : Int32) : Nat → Int32 → Mem → Option (LV × Mem)
  | 0, _, _ => none
  | n + 1, a5, μ => (if 6 ≤ a5 then (c114 a3 a4 μ) else gR 10 a0 35 μ (fun r8 => cV 10 a0 μ (bI (f_M_standing a0 a5 μ) (fun v10 μ9 => aS r8 a5 (v10 - 1) μ9 (fun μ11 => (k_M_helps_86 c114 a0 a1 a2 a3 a4 n (a5 + 1) μ11))))))
set_option maxRecDepth 20000 in
theorem j_M_helps_86 (E : EV) (a0 : Nat) (a1 : Int32) (a2 : Int32) (a3 : Int32) (a4 : Int32) {c114 : Int32 → Int32 → Mem → Option (LV × Mem)} (h114 : ∀ (b3 : Int32) (b4 : Int32)  (μ : Mem), J E I_M_helps (rmk 3 0 0) (QR E I_M_helps (rmk 3 0 0)) 0 0 μ 114 [some (.inr a0), some (.inl a1), some (.inl a2), some (.inl b3), some (.inl b4), none, none, none, none, none, none] [] (c114 b3 b4 μ)) : ∀ (n : Nat) (a5 : Int32) (μ : Mem), J E I_M_helps (rmk 3 0 0) (QR E I_M_helps (rmk 3 0 0)) 0 0 μ 86 [some (.inr a0), some (.inl a1), some (.inl a2), some (.inl a3), some (.inl a4), some (.inl a5), none, none, none, none, none] [] (k_M_helps_86 c114 a0 a1 a2 a3 a4 n a5 μ)
  | 0, _, _ => J_none
  | n + 1, a5, μ => by
    show J E I_M_helps (rmk 3 0 0) (QR E I_M_helps (rmk 3 0 0)) 0 0 μ 86 [some (.inr a0), some (.inl a1), some (.inl a2), some (.inl a3), some (.inl a4), some (.inl a5), none, none, none, none, none] [] ((if 6 ≤ a5 then (c114 a3 a4 μ) else gR 10 a0 35 μ (fun r8 => cV 10 a0 μ (bI (f_M_standing a0 a5 μ) (fun v10 μ9 => aS r8 a5 (v10 - 1) μ9 (fun μ11 => (k_M_helps_86 c114 a0 a1 a2 a3 a4 n (a5 + 1) μ11)))))))
    refine J_iload zd_M_helps_86 rfl ?_
    refine J_bipush (v := 6) zd_M_helps_88 (by decide) ?_
    refine J_icmp_ge (tgt := 114) zd_M_helps_90 rfl ?_ ?_
    · refine J_wid (k := 0) (n := 0) (Nat.le_of_ble_eq_true rfl) (Nat.le_of_ble_eq_true rfl) ?_
      refine J_keep [true, true, true, true, true, false, false, false, false, false, false] rfl ?_
      exact h114 _ _ _
    · refine J_aload_n zd_M_helps_93 rfl ?_
      refine J_gR zd_M_helps_94 zf_M_101 rfl (fun r8 => ?_)
      refine J_iload zd_M_helps_97 rfl ?_
      refine J_aload_n zd_M_helps_99 rfl ?_
      refine J_iload zd_M_helps_100 rfl ?_
      refine J_callVi (ci := 10) (as := [.inl _]) zd_M_helps_102 zm_M_standing ⟨Nat.le_of_ble_eq_true rfl, Nat.le_of_ble_eq_true rfl⟩ zw_990 zw_992 zs_40 (by decide) rfl rfl (Nat.le_of_ble_eq_true rfl) ⟨Nat.le_of_ble_eq_true rfl, Nat.le_of_ble_eq_true rfl⟩ rfl rfl (c_M_standing E _ _ _) (fun v10 μ9 => ?_)
      refine J_iconst (v := 1) zd_M_helps_105 (by decide) ?_
      refine J_isub zd_M_helps_106 ?_
      refine J_aS zd_M_helps_107 (fun μ11 => ?_)
      refine J_iinc (v := _ + 1) (lv' := [some _, some _, some _, some _, some _, some _, none, none, none, none, none]) zd_M_helps_108 (Nat.le_of_ble_eq_true rfl) rfl (by rfl) rfl ?_
      refine J_goto (tgt := 86) zd_M_helps_111 rfl ?_
      refine J_wid (k := 0) (n := 0) (Nat.le_of_ble_eq_true rfl) (Nat.le_of_ble_eq_true rfl) ?_
      refine J_keep [true, true, true, true, true, true, false, false, false, false, false] rfl ?_
      exact j_M_helps_86 E a0 a1 a2 a3 a4 h114 n _ _
def k_M_helps_123 (c153 : Int32 → Int32 → Mem → Option (LV × Mem)) (a0 : Nat) (a1 : Int32) (a2 : Int32) (a3 : Int32) (a4 : Int32) : Nat → Int32 → Int32 → Mem → Option (LV × Mem)
  | 0, _, _, _ => none
  | n + 1, a5, a6, μ => (if a6 < 0 then (c153 a3 a4 μ) else gR 10 a0 36 μ (fun r12 => aS r12 a6 (irm a5 7) μ (fun μ13 => nm (a5 / 7) (fun v14 => (k_M_helps_123 c153 a0 a1 a2 a3 a4 n v14 (a6 + (-1)) μ13)))))
set_option maxRecDepth 20000 in
theorem j_M_helps_123 (E : EV) (a0 : Nat) (a1 : Int32) (a2 : Int32) (a3 : Int32) (a4 : Int32) {c153 : Int32 → Int32 → Mem → Option (LV × Mem)} (h153 : ∀ (b3 : Int32) (b4 : Int32)  (μ : Mem), J E I_M_helps (rmk 3 0 0) (QR E I_M_helps (rmk 3 0 0)) 0 0 μ 153 [some (.inr a0), some (.inl a1), some (.inl a2), some (.inl b3), some (.inl b4), none, none, none, none, none, none] [] (c153 b3 b4 μ)) : ∀ (n : Nat) (a5 : Int32) (a6 : Int32) (μ : Mem), J E I_M_helps (rmk 3 0 0) (QR E I_M_helps (rmk 3 0 0)) 0 0 μ 123 [some (.inr a0), some (.inl a1), some (.inl a2), some (.inl a3), some (.inl a4), some (.inl a5), some (.inl a6), none, none, none, none] [] (k_M_helps_123 c153 a0 a1 a2 a3 a4 n a5 a6 μ)
  | 0, _, _, _ => J_none
  | n + 1, a5, a6, μ => by
    show J E I_M_helps (rmk 3 0 0) (QR E I_M_helps (rmk 3 0 0)) 0 0 μ 123 [some (.inr a0), some (.inl a1), some (.inl a2), some (.inl a3), some (.inl a4), some (.inl a5), some (.inl a6), none, none, none, none] [] ((if a6 < 0 then (c153 a3 a4 μ) else gR 10 a0 36 μ (fun r12 => aS r12 a6 (irm a5 7) μ (fun μ13 => nm (a5 / 7) (fun v14 => (k_M_helps_123 c153 a0 a1 a2 a3 a4 n v14 (a6 + (-1)) μ13))))))
    refine J_iload zd_M_helps_123 rfl ?_
    refine J_if_lt (tgt := 153) zd_M_helps_125 rfl ?_ ?_
    · refine J_wid (k := 0) (n := 0) (Nat.le_of_ble_eq_true rfl) (Nat.le_of_ble_eq_true rfl) ?_
      refine J_keep [true, true, true, true, true, false, false, false, false, false, false] rfl ?_
      exact h153 _ _ _
    · refine J_aload_n zd_M_helps_128 rfl ?_
      refine J_gR zd_M_helps_129 zf_M_104 rfl (fun r12 => ?_)
      refine J_iload zd_M_helps_132 rfl ?_
      refine J_iload zd_M_helps_134 rfl ?_
      refine J_bipush (v := 7) zd_M_helps_136 (by decide) ?_
      refine J_iremL zd_M_helps_138 (by decide) ?_
      refine J_aS zd_M_helps_139 (fun μ13 => ?_)
      refine J_iload zd_M_helps_140 rfl ?_
      refine J_bipush (v := 7) zd_M_helps_142 (by decide) ?_
      refine J_idivL zd_M_helps_144 (by decide) ?_
      refine J_nm (fun v14 => ?_)
      refine J_istore (lv' := [some _, some _, some _, some _, some _, some _, some _, none, none, none, none]) zd_M_helps_145 (Nat.le_of_ble_eq_true rfl) rfl ?_
      refine J_iinc (v := _ + (-1)) (lv' := [some _, some _, some _, some _, some _, some _, some _, none, none, none, none]) zd_M_helps_147 (Nat.le_of_ble_eq_true rfl) rfl (by rfl) rfl ?_
      refine J_goto (tgt := 123) zd_M_helps_150 rfl ?_
      refine J_wid (k := 0) (n := 0) (Nat.le_of_ble_eq_true rfl) (Nat.le_of_ble_eq_true rfl) ?_
      refine J_keep [true, true, true, true, true, true, true, false, false, false, false] rfl ?_
      exact j_M_helps_123 E a0 a1 a2 a3 a4 h153 n _ _ _
def b_M_helps_276 (c165 : Int32 → Int32 → Int32 → Int32 → Mem → Option (LV × Mem)) (a0 : Nat) (a1 : Int32) (a2 : Int32) (a3 : Int32) (a4 : Int32) (a6 : Int32) (a7 : Int32) (a8 : Int32) (a9 : Int32)  (μ : Mem) : Option (LV × Mem) := (c165 a6 a7 a8 (a9 + 1) μ)
set_option maxRecDepth 20000 in
theorem j_M_helps_276 (E : EV) (a0 : Nat) (a1 : Int32) (a2 : Int32) (a3 : Int32) (a4 : Int32) (a6 : Int32) (a7 : Int32) (a8 : Int32) (a9 : Int32)  (μ : Mem) {c165 : Int32 → Int32 → Int32 → Int32 → Mem → Option (LV × Mem)} (h165 : ∀ (b6 : Int32) (b7 : Int32) (b8 : Int32) (b9 : Int32)  (μ : Mem), J E I_M_helps (rmk 3 0 0) (QR E I_M_helps (rmk 3 0 0)) 0 0 μ 165 [some (.inr a0), some (.inl a1), some (.inl a2), some (.inl a3), some (.inl a4), none, some (.inl b6), some (.inl b7), some (.inl b8), some (.inl b9), none] [] (c165 b6 b7 b8 b9 μ)) : J E I_M_helps (rmk 3 0 0) (QR E I_M_helps (rmk 3 0 0)) 0 0 μ 276 [some (.inr a0), some (.inl a1), some (.inl a2), some (.inl a3), some (.inl a4), none, some (.inl a6), some (.inl a7), some (.inl a8), some (.inl a9), none] [] (b_M_helps_276 c165 a0 a1 a2 a3 a4 a6 a7 a8 a9 μ) := by
  unfold b_M_helps_276
  refine J_iinc (v := _ + 1) (lv' := [some _, some _, some _, some _, some _, none, some _, some _, some _, some _, none]) zd_M_helps_276 (Nat.le_of_ble_eq_true rfl) rfl (by rfl) rfl ?_
  refine J_goto (tgt := 165) zd_M_helps_279 rfl ?_
  refine J_wid (k := 0) (n := 0) (Nat.le_of_ble_eq_true rfl) (Nat.le_of_ble_eq_true rfl) ?_
  refine J_keep [true, true, true, true, true, false, true, true, true, true, false] rfl ?_
  exact h165 _ _ _ _ _
def b_M_helps_248 (c165 : Int32 → Int32 → Int32 → Int32 → Mem → Option (LV × Mem)) (a0 : Nat) (a1 : Int32) (a2 : Int32) (a3 : Int32) (a4 : Int32) (a6 : Int32) (a7 : Int32) (a9 : Int32) (a10 : Int32) (s0 : Int32) (μ : Mem) : Option (LV × Mem) := gR 10 a0 35 μ (fun r15 => gR 10 a0 36 μ (fun r16 => aI r16 a9 μ (fun v17 => aI r15 v17 μ (fun v18 => aS r15 v17 (v18 - 1) μ (fun μ19 => nm (a7 + a10) (fun v20 => (b_M_helps_276 c165 a0 a1 a2 a3 a4 (a6 + 1) v20 s0 a9 μ19)))))))
set_option maxRecDepth 20000 in
theorem j_M_helps_248 (E : EV) (a0 : Nat) (a1 : Int32) (a2 : Int32) (a3 : Int32) (a4 : Int32) (a6 : Int32) (a7 : Int32) (a9 : Int32) (a10 : Int32) (s0 : Int32) (μ : Mem) {c165 : Int32 → Int32 → Int32 → Int32 → Mem → Option (LV × Mem)} (h165 : ∀ (b6 : Int32) (b7 : Int32) (b8 : Int32) (b9 : Int32)  (μ : Mem), J E I_M_helps (rmk 3 0 0) (QR E I_M_helps (rmk 3 0 0)) 0 0 μ 165 [some (.inr a0), some (.inl a1), some (.inl a2), some (.inl a3), some (.inl a4), none, some (.inl b6), some (.inl b7), some (.inl b8), some (.inl b9), none] [] (c165 b6 b7 b8 b9 μ)) : J E I_M_helps (rmk 3 0 0) (QR E I_M_helps (rmk 3 0 0)) 0 0 μ 248 [some (.inr a0), some (.inl a1), some (.inl a2), some (.inl a3), some (.inl a4), none, some (.inl a6), some (.inl a7), none, some (.inl a9), some (.inl a10)] [.inl s0] (b_M_helps_248 c165 a0 a1 a2 a3 a4 a6 a7 a9 a10 s0 μ) := by
  unfold b_M_helps_248
  refine J_istore (lv' := [some _, some _, some _, some _, some _, none, some _, some _, some _, some _, some _]) zd_M_helps_248 (Nat.le_of_ble_eq_true rfl) rfl ?_
  refine J_aload_n zd_M_helps_250 rfl ?_
  refine J_gR zd_M_helps_251 zf_M_101 rfl (fun r15 => ?_)
  refine J_aload_n zd_M_helps_254 rfl ?_
  refine J_gR zd_M_helps_255 zf_M_104 rfl (fun r16 => ?_)
  refine J_iload zd_M_helps_258 rfl ?_
  refine J_aI zd_M_helps_260 (fun v17 => ?_)
  refine J_dup2 zd_M_helps_261 ?_
  refine J_aI zd_M_helps_262 (fun v18 => ?_)
  refine J_iconst (v := 1) zd_M_helps_263 (by decide) ?_
  refine J_isub zd_M_helps_264 ?_
  refine J_aS zd_M_helps_265 (fun μ19 => ?_)
  refine J_iinc (v := _ + 1) (lv' := [some _, some _, some _, some _, some _, none, some _, some _, some _, some _, some _]) zd_M_helps_266 (Nat.le_of_ble_eq_true rfl) rfl (by rfl) rfl ?_
  refine J_iload zd_M_helps_269 rfl ?_
  refine J_iload zd_M_helps_271 rfl ?_
  refine J_iadd zd_M_helps_273 ?_
  refine J_nm (fun v20 => ?_)
  refine J_istore (lv' := [some _, some _, some _, some _, some _, none, some _, some _, some _, some _, some _]) zd_M_helps_274 (Nat.le_of_ble_eq_true rfl) rfl ?_
  refine J_wid (k := 0) (n := 0) (Nat.le_of_ble_eq_true rfl) (Nat.le_of_ble_eq_true rfl) ?_
  refine J_keep [true, true, true, true, true, false, true, true, true, true, false] rfl ?_
  exact j_M_helps_276 E _ _ _ _ _ _ _ _ _ _ h165
def b_M_helps_247 (c165 : Int32 → Int32 → Int32 → Int32 → Mem → Option (LV × Mem)) (a0 : Nat) (a1 : Int32) (a2 : Int32) (a3 : Int32) (a4 : Int32) (a6 : Int32) (a7 : Int32) (a9 : Int32) (a10 : Int32)  (μ : Mem) : Option (LV × Mem) := (b_M_helps_248 c165 a0 a1 a2 a3 a4 a6 a7 a9 a10 0 μ)
set_option maxRecDepth 20000 in
theorem j_M_helps_247 (E : EV) (a0 : Nat) (a1 : Int32) (a2 : Int32) (a3 : Int32) (a4 : Int32) (a6 : Int32) (a7 : Int32) (a9 : Int32) (a10 : Int32)  (μ : Mem) {c165 : Int32 → Int32 → Int32 → Int32 → Mem → Option (LV × Mem)} (h165 : ∀ (b6 : Int32) (b7 : Int32) (b8 : Int32) (b9 : Int32)  (μ : Mem), J E I_M_helps (rmk 3 0 0) (QR E I_M_helps (rmk 3 0 0)) 0 0 μ 165 [some (.inr a0), some (.inl a1), some (.inl a2), some (.inl a3), some (.inl a4), none, some (.inl b6), some (.inl b7), some (.inl b8), some (.inl b9), none] [] (c165 b6 b7 b8 b9 μ)) : J E I_M_helps (rmk 3 0 0) (QR E I_M_helps (rmk 3 0 0)) 0 0 μ 247 [some (.inr a0), some (.inl a1), some (.inl a2), some (.inl a3), some (.inl a4), none, some (.inl a6), some (.inl a7), none, some (.inl a9), some (.inl a10)] [] (b_M_helps_247 c165 a0 a1 a2 a3 a4 a6 a7 a9 a10 μ) := by
  unfold b_M_helps_247
  refine J_iconst (v := 0) zd_M_helps_247 (by decide) ?_
  refine J_wid (k := 0) (n := 0) (Nat.le_of_ble_eq_true rfl) (Nat.le_of_ble_eq_true rfl) ?_
  refine J_keep [true, true, true, true, true, false, true, true, false, true, true] rfl ?_
  exact j_M_helps_248 E _ _ _ _ _ _ _ _ _ _ _ h165
def k_M_helps_165 (c282 : Int32 → Int32 → Int32 → Int32 → Int32 → Mem → Option (LV × Mem)) (a0 : Nat) (a1 : Int32) (a2 : Int32) (a3 : Int32) (a4 : Int32) : Nat → Int32 → Int32 → Int32 → Int32 → Mem → Option (LV × Mem)
  | 0, _, _, _, _, _ => none
  | n + 1, a6, a7, a8, a9, μ => (if a1 ≤ a9 then (c282 a3 a4 a6 a7 a8 μ) else gR 10 a0 36 μ (fun r21 => aI r21 a9 μ (fun v22 => (if v22 = 6 then (b_M_helps_276 (k_M_helps_165 c282 a0 a1 a2 a3 a4 n) a0 a1 a2 a3 a4 a6 a7 a8 a9 μ) else gR 10 a0 7 μ (fun r23 => gR 10 a0 34 μ (fun r24 => aI r24 a9 μ (fun v25 => aI r23 v25 μ (fun v26 => gR 10 a0 7 μ (fun r27 => gR 10 a0 36 μ (fun r28 => aI r28 a9 μ (fun v29 => aI r27 v29 μ (fun v30 => bI (f_M_size (v26 - v30) μ) (fun v32 μ31 => (if a8 = 0 then (b_M_helps_247 (k_M_helps_165 c282 a0 a1 a2 a3 a4 n) a0 a1 a2 a3 a4 a6 a7 a9 v32 μ31) else (if 80 < v32 then (b_M_helps_247 (k_M_helps_165 c282 a0 a1 a2 a3 a4 n) a0 a1 a2 a3 a4 a6 a7 a9 v32 μ31) else gR 10 a0 35 μ31 (fun r33 => gR 10 a0 36 μ31 (fun r34 => aI r34 a9 μ31 (fun v35 => aI r33 v35 μ31 (fun v36 => (if v36 ≤ 0 then (b_M_helps_247 (k_M_helps_165 c282 a0 a1 a2 a3 a4 n) a0 a1 a2 a3 a4 a6 a7 a9 v32 μ31) else (b_M_helps_248 (k_M_helps_165 c282 a0 a1 a2 a3 a4 n) a0 a1 a2 a3 a4 a6 a7 a9 v32 1 μ31)))))))))))))))))))))
set_option maxRecDepth 20000 in
theorem j_M_helps_165 (E : EV) (a0 : Nat) (a1 : Int32) (a2 : Int32) (a3 : Int32) (a4 : Int32) {c282 : Int32 → Int32 → Int32 → Int32 → Int32 → Mem → Option (LV × Mem)} (h282 : ∀ (b3 : Int32) (b4 : Int32) (b6 : Int32) (b7 : Int32) (b8 : Int32)  (μ : Mem), J E I_M_helps (rmk 3 0 0) (QR E I_M_helps (rmk 3 0 0)) 0 0 μ 282 [some (.inr a0), some (.inl a1), some (.inl a2), some (.inl b3), some (.inl b4), none, some (.inl b6), some (.inl b7), some (.inl b8), none, none] [] (c282 b3 b4 b6 b7 b8 μ)) : ∀ (n : Nat) (a6 : Int32) (a7 : Int32) (a8 : Int32) (a9 : Int32) (μ : Mem), J E I_M_helps (rmk 3 0 0) (QR E I_M_helps (rmk 3 0 0)) 0 0 μ 165 [some (.inr a0), some (.inl a1), some (.inl a2), some (.inl a3), some (.inl a4), none, some (.inl a6), some (.inl a7), some (.inl a8), some (.inl a9), none] [] (k_M_helps_165 c282 a0 a1 a2 a3 a4 n a6 a7 a8 a9 μ)
  | 0, _, _, _, _, _ => J_none
  | n + 1, a6, a7, a8, a9, μ => by
    show J E I_M_helps (rmk 3 0 0) (QR E I_M_helps (rmk 3 0 0)) 0 0 μ 165 [some (.inr a0), some (.inl a1), some (.inl a2), some (.inl a3), some (.inl a4), none, some (.inl a6), some (.inl a7), some (.inl a8), some (.inl a9), none] [] ((if a1 ≤ a9 then (c282 a3 a4 a6 a7 a8 μ) else gR 10 a0 36 μ (fun r21 => aI r21 a9 μ (fun v22 => (if v22 = 6 then (b_M_helps_276 (k_M_helps_165 c282 a0 a1 a2 a3 a4 n) a0 a1 a2 a3 a4 a6 a7 a8 a9 μ) else gR 10 a0 7 μ (fun r23 => gR 10 a0 34 μ (fun r24 => aI r24 a9 μ (fun v25 => aI r23 v25 μ (fun v26 => gR 10 a0 7 μ (fun r27 => gR 10 a0 36 μ (fun r28 => aI r28 a9 μ (fun v29 => aI r27 v29 μ (fun v30 => bI (f_M_size (v26 - v30) μ) (fun v32 μ31 => (if a8 = 0 then (b_M_helps_247 (k_M_helps_165 c282 a0 a1 a2 a3 a4 n) a0 a1 a2 a3 a4 a6 a7 a9 v32 μ31) else (if 80 < v32 then (b_M_helps_247 (k_M_helps_165 c282 a0 a1 a2 a3 a4 n) a0 a1 a2 a3 a4 a6 a7 a9 v32 μ31) else gR 10 a0 35 μ31 (fun r33 => gR 10 a0 36 μ31 (fun r34 => aI r34 a9 μ31 (fun v35 => aI r33 v35 μ31 (fun v36 => (if v36 ≤ 0 then (b_M_helps_247 (k_M_helps_165 c282 a0 a1 a2 a3 a4 n) a0 a1 a2 a3 a4 a6 a7 a9 v32 μ31) else (b_M_helps_248 (k_M_helps_165 c282 a0 a1 a2 a3 a4 n) a0 a1 a2 a3 a4 a6 a7 a9 v32 1 μ31))))))))))))))))))))))
    refine J_iload zd_M_helps_165 rfl ?_
    refine J_iload_n zd_M_helps_167 rfl ?_
    refine J_icmp_ge (tgt := 282) zd_M_helps_168 rfl ?_ ?_
    · refine J_wid (k := 0) (n := 0) (Nat.le_of_ble_eq_true rfl) (Nat.le_of_ble_eq_true rfl) ?_
      refine J_keep [true, true, true, true, true, false, true, true, true, false, false] rfl ?_
      exact h282 _ _ _ _ _ _
    · refine J_aload_n zd_M_helps_171 rfl ?_
      refine J_gR zd_M_helps_172 zf_M_104 rfl (fun r21 => ?_)
      refine J_iload zd_M_helps_175 rfl ?_
      refine J_aI zd_M_helps_177 (fun v22 => ?_)
      refine J_bipush (v := 6) zd_M_helps_178 (by decide) ?_
      refine J_icmp_ne (tgt := 186) zd_M_helps_180 rfl ?_ ?_
      · refine J_aload_n zd_M_helps_186 rfl ?_
        refine J_gR zd_M_helps_187 zf_M_16 rfl (fun r23 => ?_)
        refine J_aload_n zd_M_helps_190 rfl ?_
        refine J_gR zd_M_helps_191 zf_M_98 rfl (fun r24 => ?_)
        refine J_iload zd_M_helps_194 rfl ?_
        refine J_aI zd_M_helps_196 (fun v25 => ?_)
        refine J_aI zd_M_helps_197 (fun v26 => ?_)
        refine J_aload_n zd_M_helps_198 rfl ?_
        refine J_gR zd_M_helps_199 zf_M_16 rfl (fun r27 => ?_)
        refine J_aload_n zd_M_helps_202 rfl ?_
        refine J_gR zd_M_helps_203 zf_M_104 rfl (fun r28 => ?_)
        refine J_iload zd_M_helps_206 rfl ?_
        refine J_aI zd_M_helps_208 (fun v29 => ?_)
        refine J_aI zd_M_helps_209 (fun v30 => ?_)
        refine J_isub zd_M_helps_210 ?_
        refine J_callSi (as := [.inl _]) zd_M_helps_211 zm_M_size ⟨Nat.le_of_ble_eq_true rfl, Nat.le_of_ble_eq_true rfl⟩ zw_956 zw_957 rfl (Nat.le_of_ble_eq_true rfl) ⟨Nat.le_of_ble_eq_true rfl, Nat.le_of_ble_eq_true rfl⟩ rfl rfl (c_M_size E _ _) (fun v32 μ31 => ?_)
        refine J_istore (lv' := [some _, some _, some _, some _, some _, none, some _, some _, some _, some _, some _]) zd_M_helps_214 (Nat.le_of_ble_eq_true rfl) rfl ?_
        refine J_iload zd_M_helps_216 rfl ?_
        refine J_if_eq (tgt := 247) zd_M_helps_218 rfl ?_ ?_
        · refine J_wid (k := 0) (n := 0) (Nat.le_of_ble_eq_true rfl) (Nat.le_of_ble_eq_true rfl) ?_
          refine J_keep [true, true, true, true, true, false, true, true, false, true, true] rfl ?_
          exact j_M_helps_247 E _ _ _ _ _ _ _ _ _ _ (j_M_helps_165 E a0 a1 a2 a3 a4 h282 n)
        · refine J_iload zd_M_helps_221 rfl ?_
          refine J_bipush (v := 80) zd_M_helps_223 (by decide) ?_
          refine J_icmp_gt (tgt := 247) zd_M_helps_225 rfl ?_ ?_
          · refine J_wid (k := 0) (n := 0) (Nat.le_of_ble_eq_true rfl) (Nat.le_of_ble_eq_true rfl) ?_
            refine J_keep [true, true, true, true, true, false, true, true, false, true, true] rfl ?_
            exact j_M_helps_247 E _ _ _ _ _ _ _ _ _ _ (j_M_helps_165 E a0 a1 a2 a3 a4 h282 n)
          · refine J_aload_n zd_M_helps_228 rfl ?_
            refine J_gR zd_M_helps_229 zf_M_101 rfl (fun r33 => ?_)
            refine J_aload_n zd_M_helps_232 rfl ?_
            refine J_gR zd_M_helps_233 zf_M_104 rfl (fun r34 => ?_)
            refine J_iload zd_M_helps_236 rfl ?_
            refine J_aI zd_M_helps_238 (fun v35 => ?_)
            refine J_aI zd_M_helps_239 (fun v36 => ?_)
            refine J_if_le (tgt := 247) zd_M_helps_240 rfl ?_ ?_
            · refine J_wid (k := 0) (n := 0) (Nat.le_of_ble_eq_true rfl) (Nat.le_of_ble_eq_true rfl) ?_
              refine J_keep [true, true, true, true, true, false, true, true, false, true, true] rfl ?_
              exact j_M_helps_247 E _ _ _ _ _ _ _ _ _ _ (j_M_helps_165 E a0 a1 a2 a3 a4 h282 n)
            · refine J_iconst (v := 1) zd_M_helps_243 (by decide) ?_
              refine J_goto (tgt := 248) zd_M_helps_244 rfl ?_
              refine J_wid (k := 0) (n := 0) (Nat.le_of_ble_eq_true rfl) (Nat.le_of_ble_eq_true rfl) ?_
              refine J_keep [true, true, true, true, true, false, true, true, false, true, true] rfl ?_
              exact j_M_helps_248 E _ _ _ _ _ _ _ _ _ _ _ (j_M_helps_165 E a0 a1 a2 a3 a4 h282 n)
      · refine J_goto (tgt := 276) zd_M_helps_183 rfl ?_
        refine J_wid (k := 0) (n := 0) (Nat.le_of_ble_eq_true rfl) (Nat.le_of_ble_eq_true rfl) ?_
        refine J_keep [true, true, true, true, true, false, true, true, true, true, false] rfl ?_
        exact j_M_helps_276 E _ _ _ _ _ _ _ _ _ _ (j_M_helps_165 E a0 a1 a2 a3 a4 h282 n)
def k_M_helps_338 (c369 : Int32 → Int32 → Mem → Option (LV × Mem)) (a0 : Nat) (a1 : Int32) (a2 : Int32) (a3 : Int32) (a4 : Int32) : Nat → Int32 → Mem → Option (LV × Mem)
  | 0, _, _ => none
  | n + 1, a9, μ => (if a1 ≤ a9 then (c369 a3 a4 μ) else gR 10 a0 37 μ (fun r37 => gR 10 a0 34 μ (fun r38 => aI r38 a9 μ (fun v39 => gR 10 a0 36 μ (fun r40 => aI r40 a9 μ (fun v41 => aS r37 v39 v41 μ (fun μ42 => (k_M_helps_338 c369 a0 a1 a2 a3 a4 n (a9 + 1) μ42))))))))
set_option maxRecDepth 20000 in
theorem j_M_helps_338 (E : EV) (a0 : Nat) (a1 : Int32) (a2 : Int32) (a3 : Int32) (a4 : Int32) {c369 : Int32 → Int32 → Mem → Option (LV × Mem)} (h369 : ∀ (b3 : Int32) (b4 : Int32)  (μ : Mem), J E I_M_helps (rmk 3 0 0) (QR E I_M_helps (rmk 3 0 0)) 0 0 μ 369 [some (.inr a0), some (.inl a1), some (.inl a2), some (.inl b3), some (.inl b4), none, none, none, none, none, none] [] (c369 b3 b4 μ)) : ∀ (n : Nat) (a9 : Int32) (μ : Mem), J E I_M_helps (rmk 3 0 0) (QR E I_M_helps (rmk 3 0 0)) 0 0 μ 338 [some (.inr a0), some (.inl a1), some (.inl a2), some (.inl a3), some (.inl a4), none, none, none, none, some (.inl a9), none] [] (k_M_helps_338 c369 a0 a1 a2 a3 a4 n a9 μ)
  | 0, _, _ => J_none
  | n + 1, a9, μ => by
    show J E I_M_helps (rmk 3 0 0) (QR E I_M_helps (rmk 3 0 0)) 0 0 μ 338 [some (.inr a0), some (.inl a1), some (.inl a2), some (.inl a3), some (.inl a4), none, none, none, none, some (.inl a9), none] [] ((if a1 ≤ a9 then (c369 a3 a4 μ) else gR 10 a0 37 μ (fun r37 => gR 10 a0 34 μ (fun r38 => aI r38 a9 μ (fun v39 => gR 10 a0 36 μ (fun r40 => aI r40 a9 μ (fun v41 => aS r37 v39 v41 μ (fun μ42 => (k_M_helps_338 c369 a0 a1 a2 a3 a4 n (a9 + 1) μ42)))))))))
    refine J_iload zd_M_helps_338 rfl ?_
    refine J_iload_n zd_M_helps_340 rfl ?_
    refine J_icmp_ge (tgt := 369) zd_M_helps_341 rfl ?_ ?_
    · refine J_wid (k := 0) (n := 0) (Nat.le_of_ble_eq_true rfl) (Nat.le_of_ble_eq_true rfl) ?_
      refine J_keep [true, true, true, true, true, false, false, false, false, false, false] rfl ?_
      exact h369 _ _ _
    · refine J_aload_n zd_M_helps_344 rfl ?_
      refine J_gR zd_M_helps_345 zf_M_107 rfl (fun r37 => ?_)
      refine J_aload_n zd_M_helps_348 rfl ?_
      refine J_gR zd_M_helps_349 zf_M_98 rfl (fun r38 => ?_)
      refine J_iload zd_M_helps_352 rfl ?_
      refine J_aI zd_M_helps_354 (fun v39 => ?_)
      refine J_aload_n zd_M_helps_355 rfl ?_
      refine J_gR zd_M_helps_356 zf_M_104 rfl (fun r40 => ?_)
      refine J_iload zd_M_helps_359 rfl ?_
      refine J_aI zd_M_helps_361 (fun v41 => ?_)
      refine J_aS zd_M_helps_362 (fun μ42 => ?_)
      refine J_iinc (v := _ + 1) (lv' := [some _, some _, some _, some _, some _, none, none, none, none, some _, none]) zd_M_helps_363 (Nat.le_of_ble_eq_true rfl) rfl (by rfl) rfl ?_
      refine J_goto (tgt := 338) zd_M_helps_366 rfl ?_
      refine J_wid (k := 0) (n := 0) (Nat.le_of_ble_eq_true rfl) (Nat.le_of_ble_eq_true rfl) ?_
      refine J_keep [true, true, true, true, true, false, false, false, false, true, false] rfl ?_
      exact j_M_helps_338 E a0 a1 a2 a3 a4 h369 n _ _
def b_M_helps_369 (c77 : Int32 → Int32 → Mem → Option (LV × Mem)) (a0 : Nat) (a1 : Int32) (a2 : Int32) (a3 : Int32) (a4 : Int32)  (μ : Mem) : Option (LV × Mem) := (c77 a3 (a4 + 1) μ)
set_option maxRecDepth 20000 in
theorem j_M_helps_369 (E : EV) (a0 : Nat) (a1 : Int32) (a2 : Int32) (a3 : Int32) (a4 : Int32)  (μ : Mem) {c77 : Int32 → Int32 → Mem → Option (LV × Mem)} (h77 : ∀ (b3 : Int32) (b4 : Int32)  (μ : Mem), J E I_M_helps (rmk 3 0 0) (QR E I_M_helps (rmk 3 0 0)) 0 0 μ 77 [some (.inr a0), some (.inl a1), some (.inl a2), some (.inl b3), some (.inl b4), none, none, none, none, none, none] [] (c77 b3 b4 μ)) : J E I_M_helps (rmk 3 0 0) (QR E I_M_helps (rmk 3 0 0)) 0 0 μ 369 [some (.inr a0), some (.inl a1), some (.inl a2), some (.inl a3), some (.inl a4), none, none, none, none, none, none] [] (b_M_helps_369 c77 a0 a1 a2 a3 a4 μ) := by
  unfold b_M_helps_369
  refine J_iinc (v := _ + 1) (lv' := [some _, some _, some _, some _, some _, none, none, none, none, none, none]) zd_M_helps_369 (Nat.le_of_ble_eq_true rfl) rfl (by rfl) rfl ?_
  refine J_goto (tgt := 77) zd_M_helps_372 rfl ?_
  refine J_wid (k := 0) (n := 0) (Nat.le_of_ble_eq_true rfl) (Nat.le_of_ble_eq_true rfl) ?_
  refine J_keep [true, true, true, true, true, false, false, false, false, false, false] rfl ?_
  exact h77 _ _ _
def b_M_helps_321 (c77 : Int32 → Int32 → Mem → Option (LV × Mem)) (a0 : Nat) (a1 : Int32) (a2 : Int32) (a4 : Int32) (a6 : Int32) (a7 : Int32)  (μ : Mem) : Option (LV × Mem) := pI 10 a0 38 a6 μ (fun μ43 => pI 10 a0 39 a7 μ43 (fun μ44 => (k_M_helps_338 (fun b3 b4 m_ => b_M_helps_369 c77 a0 a1 a2 b3 b4 m_) a0 a1 a2 1 a4 120000 0 μ44)))
set_option maxRecDepth 20000 in
theorem j_M_helps_321 (E : EV) (a0 : Nat) (a1 : Int32) (a2 : Int32) (a4 : Int32) (a6 : Int32) (a7 : Int32)  (μ : Mem) {c77 : Int32 → Int32 → Mem → Option (LV × Mem)} (h77 : ∀ (b3 : Int32) (b4 : Int32)  (μ : Mem), J E I_M_helps (rmk 3 0 0) (QR E I_M_helps (rmk 3 0 0)) 0 0 μ 77 [some (.inr a0), some (.inl a1), some (.inl a2), some (.inl b3), some (.inl b4), none, none, none, none, none, none] [] (c77 b3 b4 μ)) : J E I_M_helps (rmk 3 0 0) (QR E I_M_helps (rmk 3 0 0)) 0 0 μ 321 [some (.inr a0), some (.inl a1), some (.inl a2), none, some (.inl a4), none, some (.inl a6), some (.inl a7), none, none, none] [] (b_M_helps_321 c77 a0 a1 a2 a4 a6 a7 μ) := by
  unfold b_M_helps_321
  refine J_iconst (v := 1) zd_M_helps_321 (by decide) ?_
  refine J_istore_n (lv' := [some _, some _, some _, some _, some _, none, some _, some _, none, none, none]) zd_M_helps_322 (Nat.le_of_ble_eq_true rfl) rfl ?_
  refine J_aload_n zd_M_helps_323 rfl ?_
  refine J_iload zd_M_helps_324 rfl ?_
  refine J_pI zd_M_helps_326 zf_M_207 ⟨zt_M, zn_M, Or.inl rfl⟩ rfl rfl (fun μ43 => ?_)
  refine J_aload_n zd_M_helps_329 rfl ?_
  refine J_iload zd_M_helps_330 rfl ?_
  refine J_pI zd_M_helps_332 zf_M_210 ⟨zt_M, zn_M, Or.inl rfl⟩ rfl rfl (fun μ44 => ?_)
  refine J_iconst (v := 0) zd_M_helps_335 (by decide) ?_
  refine J_istore (lv' := [some _, some _, some _, some _, some _, none, some _, some _, none, some _, none]) zd_M_helps_336 (Nat.le_of_ble_eq_true rfl) rfl ?_
  refine J_wid (k := 0) (n := 0) (Nat.le_of_ble_eq_true rfl) (Nat.le_of_ble_eq_true rfl) ?_
  refine J_keep [true, true, true, true, true, false, false, false, false, true, false] rfl ?_
  exact j_M_helps_338 E _ _ _ _ _ (fun b3 b4 m_ => j_M_helps_369 E a0 a1 a2 b3 b4 m_ h77) _ _ _
def b_M_helps_282 (c77 : Int32 → Int32 → Mem → Option (LV × Mem)) (a0 : Nat) (a1 : Int32) (a2 : Int32) (a3 : Int32) (a4 : Int32) (a6 : Int32) (a7 : Int32) (a8 : Int32)  (μ : Mem) : Option (LV × Mem) := (if a8 = 0 then (b_M_helps_369 c77 a0 a1 a2 a3 a4 μ) else (if a3 = 0 then (b_M_helps_321 c77 a0 a1 a2 a4 a6 a7 μ) else gI 10 a0 38 μ (fun v45 => (if a6 < v45 then (b_M_helps_369 c77 a0 a1 a2 a3 a4 μ) else gI 10 a0 38 μ (fun v46 => (if a6 = v46 then gI 10 a0 39 μ (fun v47 => (if a7 < v47 then (b_M_helps_321 c77 a0 a1 a2 a4 a6 a7 μ) else (b_M_helps_369 c77 a0 a1 a2 a3 a4 μ))) else (b_M_helps_321 c77 a0 a1 a2 a4 a6 a7 μ)))))))
set_option maxRecDepth 20000 in
theorem j_M_helps_282 (E : EV) (a0 : Nat) (a1 : Int32) (a2 : Int32) (a3 : Int32) (a4 : Int32) (a6 : Int32) (a7 : Int32) (a8 : Int32)  (μ : Mem) {c77 : Int32 → Int32 → Mem → Option (LV × Mem)} (h77 : ∀ (b3 : Int32) (b4 : Int32)  (μ : Mem), J E I_M_helps (rmk 3 0 0) (QR E I_M_helps (rmk 3 0 0)) 0 0 μ 77 [some (.inr a0), some (.inl a1), some (.inl a2), some (.inl b3), some (.inl b4), none, none, none, none, none, none] [] (c77 b3 b4 μ)) : J E I_M_helps (rmk 3 0 0) (QR E I_M_helps (rmk 3 0 0)) 0 0 μ 282 [some (.inr a0), some (.inl a1), some (.inl a2), some (.inl a3), some (.inl a4), none, some (.inl a6), some (.inl a7), some (.inl a8), none, none] [] (b_M_helps_282 c77 a0 a1 a2 a3 a4 a6 a7 a8 μ) := by
  unfold b_M_helps_282
  refine J_iload zd_M_helps_282 rfl ?_
  refine J_if_eq (tgt := 369) zd_M_helps_284 rfl ?_ ?_
  · refine J_wid (k := 0) (n := 0) (Nat.le_of_ble_eq_true rfl) (Nat.le_of_ble_eq_true rfl) ?_
    refine J_keep [true, true, true, true, true, false, false, false, false, false, false] rfl ?_
    exact j_M_helps_369 E _ _ _ _ _ _ h77
  · refine J_iload_n zd_M_helps_287 rfl ?_
    refine J_if_eq (tgt := 321) zd_M_helps_288 rfl ?_ ?_
    · refine J_wid (k := 0) (n := 0) (Nat.le_of_ble_eq_true rfl) (Nat.le_of_ble_eq_true rfl) ?_
      refine J_keep [true, true, true, false, true, false, true, true, false, false, false] rfl ?_
      exact j_M_helps_321 E _ _ _ _ _ _ _ h77
    · refine J_iload zd_M_helps_291 rfl ?_
      refine J_aload_n zd_M_helps_293 rfl ?_
      refine J_gI zd_M_helps_294 zf_M_207 rfl (fun v45 => ?_)
      refine J_icmp_lt (tgt := 369) zd_M_helps_297 rfl ?_ ?_
      · refine J_wid (k := 0) (n := 0) (Nat.le_of_ble_eq_true rfl) (Nat.le_of_ble_eq_true rfl) ?_
        refine J_keep [true, true, true, true, true, false, false, false, false, false, false] rfl ?_
        exact j_M_helps_369 E _ _ _ _ _ _ h77
      · refine J_iload zd_M_helps_300 rfl ?_
        refine J_aload_n zd_M_helps_302 rfl ?_
        refine J_gI zd_M_helps_303 zf_M_207 rfl (fun v46 => ?_)
        refine J_icmp_ne (tgt := 321) zd_M_helps_306 rfl ?_ ?_
        · refine J_wid (k := 0) (n := 0) (Nat.le_of_ble_eq_true rfl) (Nat.le_of_ble_eq_true rfl) ?_
          refine J_keep [true, true, true, false, true, false, true, true, false, false, false] rfl ?_
          exact j_M_helps_321 E _ _ _ _ _ _ _ h77
        · refine J_iload zd_M_helps_309 rfl ?_
          refine J_aload_n zd_M_helps_311 rfl ?_
          refine J_gI zd_M_helps_312 zf_M_210 rfl (fun v47 => ?_)
          refine J_icmp_lt (tgt := 321) zd_M_helps_315 rfl ?_ ?_
          · refine J_wid (k := 0) (n := 0) (Nat.le_of_ble_eq_true rfl) (Nat.le_of_ble_eq_true rfl) ?_
            refine J_keep [true, true, true, false, true, false, true, true, false, false, false] rfl ?_
            exact j_M_helps_321 E _ _ _ _ _ _ _ h77
          · refine J_goto (tgt := 369) zd_M_helps_318 rfl ?_
            refine J_wid (k := 0) (n := 0) (Nat.le_of_ble_eq_true rfl) (Nat.le_of_ble_eq_true rfl) ?_
            refine J_keep [true, true, true, true, true, false, false, false, false, false, false] rfl ?_
            exact j_M_helps_369 E _ _ _ _ _ _ h77
def b_M_helps_153 (c77 : Int32 → Int32 → Mem → Option (LV × Mem)) (a0 : Nat) (a1 : Int32) (a2 : Int32) (a3 : Int32) (a4 : Int32)  (μ : Mem) : Option (LV × Mem) := (k_M_helps_165 (fun b3 b4 b6 b7 b8 m_ => b_M_helps_282 c77 a0 a1 a2 b3 b4 b6 b7 b8 m_) a0 a1 a2 a3 a4 120000 0 0 1 0 μ)
set_option maxRecDepth 20000 in
theorem j_M_helps_153 (E : EV) (a0 : Nat) (a1 : Int32) (a2 : Int32) (a3 : Int32) (a4 : Int32)  (μ : Mem) {c77 : Int32 → Int32 → Mem → Option (LV × Mem)} (h77 : ∀ (b3 : Int32) (b4 : Int32)  (μ : Mem), J E I_M_helps (rmk 3 0 0) (QR E I_M_helps (rmk 3 0 0)) 0 0 μ 77 [some (.inr a0), some (.inl a1), some (.inl a2), some (.inl b3), some (.inl b4), none, none, none, none, none, none] [] (c77 b3 b4 μ)) : J E I_M_helps (rmk 3 0 0) (QR E I_M_helps (rmk 3 0 0)) 0 0 μ 153 [some (.inr a0), some (.inl a1), some (.inl a2), some (.inl a3), some (.inl a4), none, none, none, none, none, none] [] (b_M_helps_153 c77 a0 a1 a2 a3 a4 μ) := by
  unfold b_M_helps_153
  refine J_iconst (v := 0) zd_M_helps_153 (by decide) ?_
  refine J_istore (lv' := [some _, some _, some _, some _, some _, none, some _, none, none, none, none]) zd_M_helps_154 (Nat.le_of_ble_eq_true rfl) rfl ?_
  refine J_iconst (v := 0) zd_M_helps_156 (by decide) ?_
  refine J_istore (lv' := [some _, some _, some _, some _, some _, none, some _, some _, none, none, none]) zd_M_helps_157 (Nat.le_of_ble_eq_true rfl) rfl ?_
  refine J_iconst (v := 1) zd_M_helps_159 (by decide) ?_
  refine J_istore (lv' := [some _, some _, some _, some _, some _, none, some _, some _, some _, none, none]) zd_M_helps_160 (Nat.le_of_ble_eq_true rfl) rfl ?_
  refine J_iconst (v := 0) zd_M_helps_162 (by decide) ?_
  refine J_istore (lv' := [some _, some _, some _, some _, some _, none, some _, some _, some _, some _, none]) zd_M_helps_163 (Nat.le_of_ble_eq_true rfl) rfl ?_
  refine J_wid (k := 0) (n := 0) (Nat.le_of_ble_eq_true rfl) (Nat.le_of_ble_eq_true rfl) ?_
  refine J_keep [true, true, true, true, true, false, true, true, true, true, false] rfl ?_
  exact j_M_helps_165 E _ _ _ _ _ (fun b3 b4 b6 b7 b8 m_ => j_M_helps_282 E a0 a1 a2 b3 b4 b6 b7 b8 m_ h77) _ _ _ _ _ _
def b_M_helps_114 (c77 : Int32 → Int32 → Mem → Option (LV × Mem)) (a0 : Nat) (a1 : Int32) (a2 : Int32) (a3 : Int32) (a4 : Int32)  (μ : Mem) : Option (LV × Mem) := nm (a1 - 1) (fun v48 => (k_M_helps_123 (fun b3 b4 m_ => b_M_helps_153 c77 a0 a1 a2 b3 b4 m_) a0 a1 a2 a3 a4 120000 a4 v48 μ))
set_option maxRecDepth 20000 in
theorem j_M_helps_114 (E : EV) (a0 : Nat) (a1 : Int32) (a2 : Int32) (a3 : Int32) (a4 : Int32)  (μ : Mem) {c77 : Int32 → Int32 → Mem → Option (LV × Mem)} (h77 : ∀ (b3 : Int32) (b4 : Int32)  (μ : Mem), J E I_M_helps (rmk 3 0 0) (QR E I_M_helps (rmk 3 0 0)) 0 0 μ 77 [some (.inr a0), some (.inl a1), some (.inl a2), some (.inl b3), some (.inl b4), none, none, none, none, none, none] [] (c77 b3 b4 μ)) : J E I_M_helps (rmk 3 0 0) (QR E I_M_helps (rmk 3 0 0)) 0 0 μ 114 [some (.inr a0), some (.inl a1), some (.inl a2), some (.inl a3), some (.inl a4), none, none, none, none, none, none] [] (b_M_helps_114 c77 a0 a1 a2 a3 a4 μ) := by
  unfold b_M_helps_114
  refine J_iload zd_M_helps_114 rfl ?_
  refine J_istore (lv' := [some _, some _, some _, some _, some _, some _, none, none, none, none, none]) zd_M_helps_116 (Nat.le_of_ble_eq_true rfl) rfl ?_
  refine J_iload_n zd_M_helps_118 rfl ?_
  refine J_iconst (v := 1) zd_M_helps_119 (by decide) ?_
  refine J_isub zd_M_helps_120 ?_
  refine J_nm (fun v48 => ?_)
  refine J_istore (lv' := [some _, some _, some _, some _, some _, some _, some _, none, none, none, none]) zd_M_helps_121 (Nat.le_of_ble_eq_true rfl) rfl ?_
  refine J_wid (k := 0) (n := 0) (Nat.le_of_ble_eq_true rfl) (Nat.le_of_ble_eq_true rfl) ?_
  refine J_keep [true, true, true, true, true, true, true, false, false, false, false] rfl ?_
  exact j_M_helps_123 E _ _ _ _ _ (fun b3 b4 m_ => j_M_helps_153 E a0 a1 a2 b3 b4 m_ h77) _ _ _ _
def k_M_helps_77  (a0 : Nat) (a1 : Int32) (a2 : Int32) : Nat → Int32 → Int32 → Mem → Option (LV × Mem)
  | 0, _, _, _ => none
  | n + 1, a3, a4, μ => (if a2 ≤ a4 then (some (.inl 0, μ)) else (k_M_helps_86 (fun b3 b4 m_ => b_M_helps_114 (k_M_helps_77 a0 a1 a2 n) a0 a1 a2 b3 b4 m_) a0 a1 a2 a3 a4 120000 0 μ))
set_option maxRecDepth 20000 in
theorem j_M_helps_77 (E : EV) (a0 : Nat) (a1 : Int32) (a2 : Int32)  : ∀ (n : Nat) (a3 : Int32) (a4 : Int32) (μ : Mem), J E I_M_helps (rmk 3 0 0) (QR E I_M_helps (rmk 3 0 0)) 0 0 μ 77 [some (.inr a0), some (.inl a1), some (.inl a2), some (.inl a3), some (.inl a4), none, none, none, none, none, none] [] (k_M_helps_77 a0 a1 a2 n a3 a4 μ)
  | 0, _, _, _ => J_none
  | n + 1, a3, a4, μ => by
    show J E I_M_helps (rmk 3 0 0) (QR E I_M_helps (rmk 3 0 0)) 0 0 μ 77 [some (.inr a0), some (.inl a1), some (.inl a2), some (.inl a3), some (.inl a4), none, none, none, none, none, none] [] ((if a2 ≤ a4 then (some (.inl 0, μ)) else (k_M_helps_86 (fun b3 b4 m_ => b_M_helps_114 (k_M_helps_77 a0 a1 a2 n) a0 a1 a2 b3 b4 m_) a0 a1 a2 a3 a4 120000 0 μ)))
    refine J_iload zd_M_helps_77 rfl ?_
    refine J_iload_n zd_M_helps_79 rfl ?_
    refine J_icmp_ge (tgt := 375) zd_M_helps_80 rfl ?_ ?_
    · exact J_vret zd_M_helps_375 rfl (Nat.le_of_ble_eq_true rfl) (Nat.le_of_ble_eq_true rfl)
    · refine J_iconst (v := 0) zd_M_helps_83 (by decide) ?_
      refine J_istore (lv' := [some _, some _, some _, some _, some _, some _, none, none, none, none, none]) zd_M_helps_84 (Nat.le_of_ble_eq_true rfl) rfl ?_
      refine J_wid (k := 0) (n := 0) (Nat.le_of_ble_eq_true rfl) (Nat.le_of_ble_eq_true rfl) ?_
      refine J_keep [true, true, true, true, true, true, false, false, false, false, false] rfl ?_
      exact j_M_helps_86 E _ _ _ _ _ (fun b3 b4 m_ => j_M_helps_114 E a0 a1 a2 b3 b4 m_ (j_M_helps_77 E a0 a1 a2 n)) _ _ _
def b_M_helps_72  (a0 : Nat) (a1 : Int32) (a2 : Int32)  (μ : Mem) : Option (LV × Mem) := (k_M_helps_77 a0 a1 a2 120000 0 0 μ)
set_option maxRecDepth 20000 in
theorem j_M_helps_72 (E : EV) (a0 : Nat) (a1 : Int32) (a2 : Int32)  (μ : Mem)  : J E I_M_helps (rmk 3 0 0) (QR E I_M_helps (rmk 3 0 0)) 0 0 μ 72 [some (.inr a0), some (.inl a1), some (.inl a2), none, none, none, none, none, none, none, none] [] (b_M_helps_72 a0 a1 a2 μ) := by
  unfold b_M_helps_72
  refine J_iconst (v := 0) zd_M_helps_72 (by decide) ?_
  refine J_istore_n (lv' := [some _, some _, some _, some _, none, none, none, none, none, none, none]) zd_M_helps_73 (Nat.le_of_ble_eq_true rfl) rfl ?_
  refine J_iconst (v := 0) zd_M_helps_74 (by decide) ?_
  refine J_istore (lv' := [some _, some _, some _, some _, some _, none, none, none, none, none, none]) zd_M_helps_75 (Nat.le_of_ble_eq_true rfl) rfl ?_
  refine J_wid (k := 0) (n := 0) (Nat.le_of_ble_eq_true rfl) (Nat.le_of_ble_eq_true rfl) ?_
  refine J_keep [true, true, true, true, true, false, false, false, false, false, false] rfl ?_
  exact j_M_helps_77 E _ _ _ _ _ _ _
def b_M_helps_42  (a0 : Nat) (a1 : Int32)  (μ : Mem) : Option (LV × Mem) := pI 10 a0 38 0 μ (fun μ49 => pI 10 a0 39 0 μ49 (fun μ50 => (k_M_helps_56 (fun b0 b1 b2 m_ => b_M_helps_72 b0 b1 b2 m_) a0 a1 120000 1 0 μ50)))
set_option maxRecDepth 20000 in
theorem j_M_helps_42 (E : EV) (a0 : Nat) (a1 : Int32)  (μ : Mem)  : J E I_M_helps (rmk 3 0 0) (QR E I_M_helps (rmk 3 0 0)) 0 0 μ 42 [some (.inr a0), some (.inl a1), none, none, none, none, none, none, none, none, none] [] (b_M_helps_42 a0 a1 μ) := by
  unfold b_M_helps_42
  refine J_aload_n zd_M_helps_42 rfl ?_
  refine J_iconst (v := 0) zd_M_helps_43 (by decide) ?_
  refine J_pI zd_M_helps_44 zf_M_207 ⟨zt_M, zn_M, Or.inl rfl⟩ rfl rfl (fun μ49 => ?_)
  refine J_aload_n zd_M_helps_47 rfl ?_
  refine J_iconst (v := 0) zd_M_helps_48 (by decide) ?_
  refine J_pI zd_M_helps_49 zf_M_210 ⟨zt_M, zn_M, Or.inl rfl⟩ rfl rfl (fun μ50 => ?_)
  refine J_iconst (v := 1) zd_M_helps_52 (by decide) ?_
  refine J_istore_n (lv' := [some _, some _, some _, none, none, none, none, none, none, none, none]) zd_M_helps_53 (Nat.le_of_ble_eq_true rfl) rfl ?_
  refine J_iconst (v := 0) zd_M_helps_54 (by decide) ?_
  refine J_istore_n (lv' := [some _, some _, some _, some _, none, none, none, none, none, none, none]) zd_M_helps_55 (Nat.le_of_ble_eq_true rfl) rfl ?_
  refine J_wid (k := 0) (n := 0) (Nat.le_of_ble_eq_true rfl) (Nat.le_of_ble_eq_true rfl) ?_
  refine J_keep [true, true, true, true, false, false, false, false, false, false, false] rfl ?_
  exact j_M_helps_56 E _ _ (fun b0 b1 b2 m_ => j_M_helps_72 E b0 b1 b2 m_) _ _ _ _
def f_M_helps (a0 : Nat) (μ : Mem) : Option (LV × Mem) := (k_M_helps_4 (fun b0 b1 m_ => b_M_helps_42 b0 b1 m_) a0 120000 0 0 μ)
set_option maxRecDepth 20000 in
theorem c_M_helps (E : EV) (a0 : Nat) (μ : Mem) : Ct E I_M_helps (rmk 3 0 0) [.inr a0] μ (f_M_helps a0 μ) := by
  refine Ct.of (k := 10) (by decide +kernel) rfl ?_
  show J E I_M_helps (rmk 3 0 0) (QR E I_M_helps (rmk 3 0 0)) 0 0 μ 0 [some (.inr a0), none, none, none, none, none, none, none, none, none, none] [] (f_M_helps a0 μ)
  unfold f_M_helps
  refine J_iconst (v := 0) zd_M_helps_0 (by decide) ?_
  refine J_istore_n (lv' := [some _, some _, none, none, none, none, none, none, none, none, none]) zd_M_helps_1 (Nat.le_of_ble_eq_true rfl) rfl ?_
  refine J_iconst (v := 0) zd_M_helps_2 (by decide) ?_
  refine J_istore_n (lv' := [some _, some _, some _, none, none, none, none, none, none, none, none]) zd_M_helps_3 (Nat.le_of_ble_eq_true rfl) rfl ?_
  refine J_wid (k := 0) (n := 0) (Nat.le_of_ble_eq_true rfl) (Nat.le_of_ble_eq_true rfl) ?_
  refine J_keep [true, true, true, false, false, false, false, false, false, false, false] rfl ?_
  exact j_M_helps_4 E _ (fun b0 b1 m_ => j_M_helps_42 E b0 b1 m_) _ _ _ _
def b_M_flanks_9  (a0 : Nat)  (μ : Mem) : Option (LV × Mem) := cV 10 a0 μ (bI (f_M_no a0 (-2) μ) (fun v2 μ1 => (some (.inl v2, μ1))))
set_option maxRecDepth 20000 in
theorem j_M_flanks_9 (E : EV) (a0 : Nat)  (μ : Mem)  : J E I_M_flanks (rmk 4 0 0) (QR E I_M_flanks (rmk 4 0 0)) 0 0 μ 9 [some (.inr a0), none] [] (b_M_flanks_9 a0 μ) := by
  unfold b_M_flanks_9
  refine J_aload_n zd_M_flanks_9 rfl ?_
  refine J_bipush (v := (-2)) zd_M_flanks_10 (by decide) ?_
  refine J_callVi (ci := 10) (as := [.inl _]) zd_M_flanks_12 zm_M_no ⟨Nat.le_of_ble_eq_true rfl, Nat.le_of_ble_eq_true rfl⟩ zw_821 zw_823 zs_22 (by decide) rfl rfl (Nat.le_of_ble_eq_true rfl) ⟨Nat.le_of_ble_eq_true rfl, Nat.le_of_ble_eq_true rfl⟩ rfl rfl (c_M_no E _ _ _) (fun v2 μ1 => ?_)
  exact J_iret zd_M_flanks_15 rfl (Nat.le_of_ble_eq_true rfl) (Nat.le_of_ble_eq_true rfl)
def f_M_flanks (a0 : Nat) (a1 : Int32) (μ : Mem) : Option (LV × Mem) := (if a1 < 0 then (b_M_flanks_9 a0 μ) else (if a1 ≤ 1 then cV 10 a0 μ (bV (f_M_helps a0 μ) (fun μ3 => (if a1 = 0 then gI 10 a0 38 μ3 (fun v5 => (some (.inl v5, μ3))) else gI 10 a0 39 μ3 (fun v4 => (some (.inl v4, μ3)))))) else (b_M_flanks_9 a0 μ)))
set_option maxRecDepth 20000 in
theorem c_M_flanks (E : EV) (a0 : Nat) (a1 : Int32) (μ : Mem) : Ct E I_M_flanks (rmk 4 0 0) [.inr a0, .inl a1] μ (f_M_flanks a0 a1 μ) := by
  refine Ct.of (k := 0) (by decide +kernel) rfl ?_
  show J E I_M_flanks (rmk 4 0 0) (QR E I_M_flanks (rmk 4 0 0)) 0 0 μ 0 [some (.inr a0), some (.inl a1)] [] (f_M_flanks a0 a1 μ)
  unfold f_M_flanks
  refine J_iload_n zd_M_flanks_0 rfl ?_
  refine J_if_lt (tgt := 9) zd_M_flanks_1 rfl ?_ ?_
  · refine J_wid (k := 0) (n := 0) (Nat.le_of_ble_eq_true rfl) (Nat.le_of_ble_eq_true rfl) ?_
    refine J_keep [true, false] rfl ?_
    exact j_M_flanks_9 E _ _
  · refine J_iload_n zd_M_flanks_4 rfl ?_
    refine J_iconst (v := 1) zd_M_flanks_5 (by decide) ?_
    refine J_icmp_le (tgt := 16) zd_M_flanks_6 rfl ?_ ?_
    · refine J_aload_n zd_M_flanks_16 rfl ?_
      refine J_callVv (ci := 10) (as := []) zd_M_flanks_17 zm_M_helps ⟨Nat.le_of_ble_eq_true rfl, Nat.le_of_ble_eq_true rfl⟩ zw_998 zw_1000 zs_41 (by decide) rfl rfl (Nat.le_of_ble_eq_true rfl) ⟨Nat.le_of_ble_eq_true rfl, Nat.le_of_ble_eq_true rfl⟩ rfl rfl (c_M_helps E _ _) (fun μ3 => ?_)
      refine J_iload_n zd_M_flanks_20 rfl ?_
      refine J_if_ne (tgt := 31) zd_M_flanks_21 rfl ?_ ?_
      · refine J_aload_n zd_M_flanks_31 rfl ?_
        refine J_gI zd_M_flanks_32 zf_M_210 rfl (fun v4 => ?_)
        exact J_iret zd_M_flanks_35 rfl (Nat.le_of_ble_eq_true rfl) (Nat.le_of_ble_eq_true rfl)
      · refine J_aload_n zd_M_flanks_24 rfl ?_
        refine J_gI zd_M_flanks_25 zf_M_207 rfl (fun v5 => ?_)
        refine J_goto (tgt := 35) zd_M_flanks_28 rfl ?_
        exact J_iret zd_M_flanks_35 rfl (Nat.le_of_ble_eq_true rfl) (Nat.le_of_ble_eq_true rfl)
    · refine J_wid (k := 0) (n := 0) (Nat.le_of_ble_eq_true rfl) (Nat.le_of_ble_eq_true rfl) ?_
      refine J_keep [true, false] rfl ?_
      exact j_M_flanks_9 E _ _
def f_M_flank (a0 : Nat) (a1 : Int32) (μ : Mem) : Option (LV × Mem) := bI (f_M_isStation a1 μ) (fun v2 μ1 => (if v2 = 0 then cV 10 a0 μ1 (bI (f_M_no a0 (-1) μ1) (fun v9 μ8 => (some (.inl v9, μ8)))) else cV 10 a0 μ1 (bV (f_M_helps a0 μ1) (fun μ3 => gR 10 a0 37 μ3 (fun r4 => aI r4 a1 μ3 (fun v5 => (if v5 = 6 then (some (.inl (-9), μ3)) else gR 10 a0 37 μ3 (fun r6 => aI r6 a1 μ3 (fun v7 => (some (.inl v7, μ3)))))))))))
set_option maxRecDepth 20000 in
theorem c_M_flank (E : EV) (a0 : Nat) (a1 : Int32) (μ : Mem) : Ct E I_M_flank (rmk 4 0 0) [.inr a0, .inl a1] μ (f_M_flank a0 a1 μ) := by
  refine Ct.of (k := 0) (by decide +kernel) rfl ?_
  show J E I_M_flank (rmk 4 0 0) (QR E I_M_flank (rmk 4 0 0)) 0 0 μ 0 [some (.inr a0), some (.inl a1)] [] (f_M_flank a0 a1 μ)
  unfold f_M_flank
  refine J_iload_n zd_M_flank_0 rfl ?_
  refine J_callSi (as := [.inl _]) zd_M_flank_1 zm_M_isStation ⟨Nat.le_of_ble_eq_true rfl, Nat.le_of_ble_eq_true rfl⟩ zw_818 zw_819 rfl (Nat.le_of_ble_eq_true rfl) ⟨Nat.le_of_ble_eq_true rfl, Nat.le_of_ble_eq_true rfl⟩ rfl rfl (c_M_isStation E _ _) (fun v2 μ1 => ?_)
  refine J_if_ne (tgt := 13) zd_M_flank_4 rfl ?_ ?_
  · refine J_aload_n zd_M_flank_13 rfl ?_
    refine J_callVv (ci := 10) (as := []) zd_M_flank_14 zm_M_helps ⟨Nat.le_of_ble_eq_true rfl, Nat.le_of_ble_eq_true rfl⟩ zw_998 zw_1000 zs_41 (by decide) rfl rfl (Nat.le_of_ble_eq_true rfl) ⟨Nat.le_of_ble_eq_true rfl, Nat.le_of_ble_eq_true rfl⟩ rfl rfl (c_M_helps E _ _) (fun μ3 => ?_)
    refine J_aload_n zd_M_flank_17 rfl ?_
    refine J_gR zd_M_flank_18 zf_M_107 rfl (fun r4 => ?_)
    refine J_iload_n zd_M_flank_21 rfl ?_
    refine J_aI zd_M_flank_22 (fun v5 => ?_)
    refine J_bipush (v := 6) zd_M_flank_23 (by decide) ?_
    refine J_icmp_ne (tgt := 33) zd_M_flank_25 rfl ?_ ?_
    · refine J_aload_n zd_M_flank_33 rfl ?_
      refine J_gR zd_M_flank_34 zf_M_107 rfl (fun r6 => ?_)
      refine J_iload_n zd_M_flank_37 rfl ?_
      refine J_aI zd_M_flank_38 (fun v7 => ?_)
      exact J_iret zd_M_flank_39 rfl (Nat.le_of_ble_eq_true rfl) (Nat.le_of_ble_eq_true rfl)
    · refine J_bipush (v := (-9)) zd_M_flank_28 (by decide) ?_
      refine J_goto (tgt := 39) zd_M_flank_30 rfl ?_
      exact J_iret zd_M_flank_39 rfl (Nat.le_of_ble_eq_true rfl) (Nat.le_of_ble_eq_true rfl)
  · refine J_aload_n zd_M_flank_7 rfl ?_
    refine J_iconst (v := (-1)) zd_M_flank_8 (by decide) ?_
    refine J_callVi (ci := 10) (as := [.inl _]) zd_M_flank_9 zm_M_no ⟨Nat.le_of_ble_eq_true rfl, Nat.le_of_ble_eq_true rfl⟩ zw_821 zw_823 zs_22 (by decide) rfl rfl (Nat.le_of_ble_eq_true rfl) ⟨Nat.le_of_ble_eq_true rfl, Nat.le_of_ble_eq_true rfl⟩ rfl rfl (c_M_no E _ _ _) (fun v9 μ8 => ?_)
    exact J_iret zd_M_flank_12 rfl (Nat.le_of_ble_eq_true rfl) (Nat.le_of_ble_eq_true rfl)
def f_M_isBox (a0 : Int32) (μ : Mem) : Option (LV × Mem) := (if a0 < 0 then (some (.inl 0, μ)) else (if 12 ≤ a0 then (some (.inl 0, μ)) else (some (.inl 1, μ))))
set_option maxRecDepth 20000 in
theorem c_M_isBox (E : EV) (a0 : Int32) (μ : Mem) : Ct E I_M_isBox (rmk 1 0 0) [.inl a0] μ (f_M_isBox a0 μ) := by
  refine Ct.of (k := 0) (by decide +kernel) rfl ?_
  show J E I_M_isBox (rmk 1 0 0) (QR E I_M_isBox (rmk 1 0 0)) 0 0 μ 0 [some (.inl a0)] [] (f_M_isBox a0 μ)
  unfold f_M_isBox
  refine J_iload_n zd_M_isBox_0 rfl ?_
  refine J_if_lt (tgt := 14) zd_M_isBox_1 rfl ?_ ?_
  · refine J_iconst (v := 0) zd_M_isBox_14 (by decide) ?_
    exact J_zret zd_M_isBox_15 rfl rfl (Nat.le_of_ble_eq_true rfl) (Nat.le_of_ble_eq_true rfl)
  · refine J_iload_n zd_M_isBox_4 rfl ?_
    refine J_bipush (v := 12) zd_M_isBox_5 (by decide) ?_
    refine J_icmp_ge (tgt := 14) zd_M_isBox_7 rfl ?_ ?_
    · refine J_iconst (v := 0) zd_M_isBox_14 (by decide) ?_
      exact J_zret zd_M_isBox_15 rfl rfl (Nat.le_of_ble_eq_true rfl) (Nat.le_of_ble_eq_true rfl)
    · refine J_iconst (v := 1) zd_M_isBox_10 (by decide) ?_
      refine J_goto (tgt := 15) zd_M_isBox_11 rfl ?_
      exact J_zret zd_M_isBox_15 rfl rfl (Nat.le_of_ble_eq_true rfl) (Nat.le_of_ble_eq_true rfl)
def f_M_box (a0 : Nat) (a1 : Int32) (a2 : Int32) (μ : Mem) : Option (LV × Mem) := bI (f_M_isBox a1 μ) (fun v2 μ1 => (if v2 = 0 then cV 10 a0 μ1 (bI (f_M_no a0 (-1) μ1) (fun v12 μ11 => (some (.inl v12, μ11)))) else (if 0 ≤ a2 then (if a2 ≤ 9999 then gR 10 a0 28 μ1 (fun r3 => aI r3 a1 μ1 (fun v4 => gR 10 a0 28 μ1 (fun r5 => aS r5 a1 a2 μ1 (fun μ6 => (some (.inl v4, μ6)))))) else cV 10 a0 μ1 (bI (f_M_no a0 (-6) μ1) (fun v8 μ7 => (some (.inl v8, μ7))))) else cV 10 a0 μ1 (bI (f_M_no a0 (-4) μ1) (fun v10 μ9 => (some (.inl v10, μ9)))))))
set_option maxRecDepth 20000 in
theorem c_M_box (E : EV) (a0 : Nat) (a1 : Int32) (a2 : Int32) (μ : Mem) : Ct E I_M_box (rmk 2 0 0) [.inr a0, .inl a1, .inl a2] μ (f_M_box a0 a1 a2 μ) := by
  refine Ct.of (k := 1) (by decide +kernel) rfl ?_
  show J E I_M_box (rmk 2 0 0) (QR E I_M_box (rmk 2 0 0)) 0 0 μ 0 [some (.inr a0), some (.inl a1), some (.inl a2), none] [] (f_M_box a0 a1 a2 μ)
  unfold f_M_box
  refine J_iload_n zd_M_box_0 rfl ?_
  refine J_callSi (as := [.inl _]) zd_M_box_1 zm_M_isBox ⟨Nat.le_of_ble_eq_true rfl, Nat.le_of_ble_eq_true rfl⟩ zw_1010 zw_1011 rfl (Nat.le_of_ble_eq_true rfl) ⟨Nat.le_of_ble_eq_true rfl, Nat.le_of_ble_eq_true rfl⟩ rfl rfl (c_M_isBox E _ _) (fun v2 μ1 => ?_)
  refine J_if_ne (tgt := 13) zd_M_box_4 rfl ?_ ?_
  · refine J_iload_n zd_M_box_13 rfl ?_
    refine J_if_ge (tgt := 24) zd_M_box_14 rfl ?_ ?_
    · refine J_iload_n zd_M_box_24 rfl ?_
      refine J_sipush (v := 9999) zd_M_box_25 (by decide) ?_
      refine J_icmp_le (tgt := 38) zd_M_box_28 rfl ?_ ?_
      · refine J_aload_n zd_M_box_38 rfl ?_
        refine J_gR zd_M_box_39 zf_M_80 rfl (fun r3 => ?_)
        refine J_iload_n zd_M_box_42 rfl ?_
        refine J_aI zd_M_box_43 (fun v4 => ?_)
        refine J_istore_n (lv' := [some _, some _, some _, some _]) zd_M_box_44 (Nat.le_of_ble_eq_true rfl) rfl ?_
        refine J_aload_n zd_M_box_45 rfl ?_
        refine J_gR zd_M_box_46 zf_M_80 rfl (fun r5 => ?_)
        refine J_iload_n zd_M_box_49 rfl ?_
        refine J_iload_n zd_M_box_50 rfl ?_
        refine J_aS zd_M_box_51 (fun μ6 => ?_)
        refine J_iload_n zd_M_box_52 rfl ?_
        exact J_iret zd_M_box_53 rfl (Nat.le_of_ble_eq_true rfl) (Nat.le_of_ble_eq_true rfl)
      · refine J_aload_n zd_M_box_31 rfl ?_
        refine J_bipush (v := (-6)) zd_M_box_32 (by decide) ?_
        refine J_callVi (ci := 10) (as := [.inl _]) zd_M_box_34 zm_M_no ⟨Nat.le_of_ble_eq_true rfl, Nat.le_of_ble_eq_true rfl⟩ zw_821 zw_823 zs_22 (by decide) rfl rfl (Nat.le_of_ble_eq_true rfl) ⟨Nat.le_of_ble_eq_true rfl, Nat.le_of_ble_eq_true rfl⟩ rfl rfl (c_M_no E _ _ _) (fun v8 μ7 => ?_)
        exact J_iret zd_M_box_37 rfl (Nat.le_of_ble_eq_true rfl) (Nat.le_of_ble_eq_true rfl)
    · refine J_aload_n zd_M_box_17 rfl ?_
      refine J_bipush (v := (-4)) zd_M_box_18 (by decide) ?_
      refine J_callVi (ci := 10) (as := [.inl _]) zd_M_box_20 zm_M_no ⟨Nat.le_of_ble_eq_true rfl, Nat.le_of_ble_eq_true rfl⟩ zw_821 zw_823 zs_22 (by decide) rfl rfl (Nat.le_of_ble_eq_true rfl) ⟨Nat.le_of_ble_eq_true rfl, Nat.le_of_ble_eq_true rfl⟩ rfl rfl (c_M_no E _ _ _) (fun v10 μ9 => ?_)
      exact J_iret zd_M_box_23 rfl (Nat.le_of_ble_eq_true rfl) (Nat.le_of_ble_eq_true rfl)
  · refine J_aload_n zd_M_box_7 rfl ?_
    refine J_iconst (v := (-1)) zd_M_box_8 (by decide) ?_
    refine J_callVi (ci := 10) (as := [.inl _]) zd_M_box_9 zm_M_no ⟨Nat.le_of_ble_eq_true rfl, Nat.le_of_ble_eq_true rfl⟩ zw_821 zw_823 zs_22 (by decide) rfl rfl (Nat.le_of_ble_eq_true rfl) ⟨Nat.le_of_ble_eq_true rfl, Nat.le_of_ble_eq_true rfl⟩ rfl rfl (c_M_no E _ _ _) (fun v12 μ11 => ?_)
    exact J_iret zd_M_box_12 rfl (Nat.le_of_ble_eq_true rfl) (Nat.le_of_ble_eq_true rfl)
def f_M_look (a0 : Nat) (a1 : Int32) (a2 : Int32) (μ : Mem) : Option (LV × Mem) := bI (f_M_isBox a1 μ) (fun v2 μ1 => (if v2 = 0 then cV 10 a0 μ1 (bI (f_M_no a0 (-1) μ1) (fun v14 μ13 => (some (.inl v14, μ13)))) else (if 0 ≤ a2 then (if a2 ≤ 9 then gR 10 a0 28 μ1 (fun r3 => gR 10 a0 28 μ1 (fun r4 => aI r4 a1 μ1 (fun v5 => aS r3 a1 ((v5 * (10 - a2)) / 10) μ1 (fun μ6 => gR 10 a0 28 μ6 (fun r7 => aI r7 a1 μ6 (fun v8 => (some (.inl v8, μ6)))))))) else cV 10 a0 μ1 (bI (f_M_no a0 (-6) μ1) (fun v10 μ9 => (some (.inl v10, μ9))))) else cV 10 a0 μ1 (bI (f_M_no a0 (-4) μ1) (fun v12 μ11 => (some (.inl v12, μ11)))))))
set_option maxRecDepth 20000 in
theorem c_M_look (E : EV) (a0 : Nat) (a1 : Int32) (a2 : Int32) (μ : Mem) : Ct E I_M_look (rmk 2 0 0) [.inr a0, .inl a1, .inl a2] μ (f_M_look a0 a1 a2 μ) := by
  refine Ct.of (k := 0) (by decide +kernel) rfl ?_
  show J E I_M_look (rmk 2 0 0) (QR E I_M_look (rmk 2 0 0)) 0 0 μ 0 [some (.inr a0), some (.inl a1), some (.inl a2)] [] (f_M_look a0 a1 a2 μ)
  unfold f_M_look
  refine J_iload_n zd_M_look_0 rfl ?_
  refine J_callSi (as := [.inl _]) zd_M_look_1 zm_M_isBox ⟨Nat.le_of_ble_eq_true rfl, Nat.le_of_ble_eq_true rfl⟩ zw_1010 zw_1011 rfl (Nat.le_of_ble_eq_true rfl) ⟨Nat.le_of_ble_eq_true rfl, Nat.le_of_ble_eq_true rfl⟩ rfl rfl (c_M_isBox E _ _) (fun v2 μ1 => ?_)
  refine J_if_ne (tgt := 13) zd_M_look_4 rfl ?_ ?_
  · refine J_iload_n zd_M_look_13 rfl ?_
    refine J_if_ge (tgt := 24) zd_M_look_14 rfl ?_ ?_
    · refine J_iload_n zd_M_look_24 rfl ?_
      refine J_bipush (v := 9) zd_M_look_25 (by decide) ?_
      refine J_icmp_le (tgt := 37) zd_M_look_27 rfl ?_ ?_
      · refine J_aload_n zd_M_look_37 rfl ?_
        refine J_gR zd_M_look_38 zf_M_80 rfl (fun r3 => ?_)
        refine J_iload_n zd_M_look_41 rfl ?_
        refine J_aload_n zd_M_look_42 rfl ?_
        refine J_gR zd_M_look_43 zf_M_80 rfl (fun r4 => ?_)
        refine J_iload_n zd_M_look_46 rfl ?_
        refine J_aI zd_M_look_47 (fun v5 => ?_)
        refine J_bipush (v := 10) zd_M_look_48 (by decide) ?_
        refine J_iload_n zd_M_look_50 rfl ?_
        refine J_isub zd_M_look_51 ?_
        refine J_imul zd_M_look_52 ?_
        refine J_bipush (v := 10) zd_M_look_53 (by decide) ?_
        refine J_idivL zd_M_look_55 (by decide) ?_
        refine J_aS zd_M_look_56 (fun μ6 => ?_)
        refine J_aload_n zd_M_look_57 rfl ?_
        refine J_gR zd_M_look_58 zf_M_80 rfl (fun r7 => ?_)
        refine J_iload_n zd_M_look_61 rfl ?_
        refine J_aI zd_M_look_62 (fun v8 => ?_)
        exact J_iret zd_M_look_63 rfl (Nat.le_of_ble_eq_true rfl) (Nat.le_of_ble_eq_true rfl)
      · refine J_aload_n zd_M_look_30 rfl ?_
        refine J_bipush (v := (-6)) zd_M_look_31 (by decide) ?_
        refine J_callVi (ci := 10) (as := [.inl _]) zd_M_look_33 zm_M_no ⟨Nat.le_of_ble_eq_true rfl, Nat.le_of_ble_eq_true rfl⟩ zw_821 zw_823 zs_22 (by decide) rfl rfl (Nat.le_of_ble_eq_true rfl) ⟨Nat.le_of_ble_eq_true rfl, Nat.le_of_ble_eq_true rfl⟩ rfl rfl (c_M_no E _ _ _) (fun v10 μ9 => ?_)
        exact J_iret zd_M_look_36 rfl (Nat.le_of_ble_eq_true rfl) (Nat.le_of_ble_eq_true rfl)
    · refine J_aload_n zd_M_look_17 rfl ?_
      refine J_bipush (v := (-4)) zd_M_look_18 (by decide) ?_
      refine J_callVi (ci := 10) (as := [.inl _]) zd_M_look_20 zm_M_no ⟨Nat.le_of_ble_eq_true rfl, Nat.le_of_ble_eq_true rfl⟩ zw_821 zw_823 zs_22 (by decide) rfl rfl (Nat.le_of_ble_eq_true rfl) ⟨Nat.le_of_ble_eq_true rfl, Nat.le_of_ble_eq_true rfl⟩ rfl rfl (c_M_no E _ _ _) (fun v12 μ11 => ?_)
      exact J_iret zd_M_look_23 rfl (Nat.le_of_ble_eq_true rfl) (Nat.le_of_ble_eq_true rfl)
  · refine J_aload_n zd_M_look_7 rfl ?_
    refine J_iconst (v := (-1)) zd_M_look_8 (by decide) ?_
    refine J_callVi (ci := 10) (as := [.inl _]) zd_M_look_9 zm_M_no ⟨Nat.le_of_ble_eq_true rfl, Nat.le_of_ble_eq_true rfl⟩ zw_821 zw_823 zs_22 (by decide) rfl rfl (Nat.le_of_ble_eq_true rfl) ⟨Nat.le_of_ble_eq_true rfl, Nat.le_of_ble_eq_true rfl⟩ rfl rfl (c_M_no E _ _ _) (fun v14 μ13 => ?_)
    exact J_iret zd_M_look_12 rfl (Nat.le_of_ble_eq_true rfl) (Nat.le_of_ble_eq_true rfl)
def k_M_tries_2 (c26 : Nat → Int32 → Int32 → Mem → Option (LV × Mem)) (a0 : Nat) (a1 : Int32) (a2 : Int32) : Nat → Int32 → Mem → Option (LV × Mem)
  | 0, _, _ => none
  | n + 1, a3, μ => (if 12 ≤ a3 then (c26 a0 a1 a2 μ) else gR 10 a0 29 μ (fun r1 => gR 10 a0 28 μ (fun r2 => aI r2 a3 μ (fun v3 => aS r1 a3 v3 μ (fun μ4 => (k_M_tries_2 c26 a0 a1 a2 n (a3 + 1) μ4))))))
set_option maxRecDepth 20000 in
theorem j_M_tries_2 (E : EV) (a0 : Nat) (a1 : Int32) (a2 : Int32) {c26 : Nat → Int32 → Int32 → Mem → Option (LV × Mem)} (h26 : ∀ (b0 : Nat) (b1 : Int32) (b2 : Int32)  (μ : Mem), J E I_M_tries (rmk 1 0 0) (QR E I_M_tries (rmk 1 0 0)) 0 0 μ 26 [some (.inr b0), some (.inl b1), some (.inl b2), none, none, none, none] [] (c26 b0 b1 b2 μ)) : ∀ (n : Nat) (a3 : Int32) (μ : Mem), J E I_M_tries (rmk 1 0 0) (QR E I_M_tries (rmk 1 0 0)) 0 0 μ 2 [some (.inr a0), some (.inl a1), some (.inl a2), some (.inl a3), none, none, none] [] (k_M_tries_2 c26 a0 a1 a2 n a3 μ)
  | 0, _, _ => J_none
  | n + 1, a3, μ => by
    show J E I_M_tries (rmk 1 0 0) (QR E I_M_tries (rmk 1 0 0)) 0 0 μ 2 [some (.inr a0), some (.inl a1), some (.inl a2), some (.inl a3), none, none, none] [] ((if 12 ≤ a3 then (c26 a0 a1 a2 μ) else gR 10 a0 29 μ (fun r1 => gR 10 a0 28 μ (fun r2 => aI r2 a3 μ (fun v3 => aS r1 a3 v3 μ (fun μ4 => (k_M_tries_2 c26 a0 a1 a2 n (a3 + 1) μ4)))))))
    refine J_iload_n zd_M_tries_2 rfl ?_
    refine J_bipush (v := 12) zd_M_tries_3 (by decide) ?_
    refine J_icmp_ge (tgt := 26) zd_M_tries_5 rfl ?_ ?_
    · refine J_wid (k := 0) (n := 0) (Nat.le_of_ble_eq_true rfl) (Nat.le_of_ble_eq_true rfl) ?_
      refine J_keep [true, true, true, false, false, false, false] rfl ?_
      exact h26 _ _ _ _
    · refine J_aload_n zd_M_tries_8 rfl ?_
      refine J_gR zd_M_tries_9 zf_M_83 rfl (fun r1 => ?_)
      refine J_iload_n zd_M_tries_12 rfl ?_
      refine J_aload_n zd_M_tries_13 rfl ?_
      refine J_gR zd_M_tries_14 zf_M_80 rfl (fun r2 => ?_)
      refine J_iload_n zd_M_tries_17 rfl ?_
      refine J_aI zd_M_tries_18 (fun v3 => ?_)
      refine J_aS zd_M_tries_19 (fun μ4 => ?_)
      refine J_iinc (v := _ + 1) (lv' := [some _, some _, some _, some _, none, none, none]) zd_M_tries_20 (Nat.le_of_ble_eq_true rfl) rfl (by rfl) rfl ?_
      refine J_goto (tgt := 2) zd_M_tries_23 rfl ?_
      refine J_wid (k := 0) (n := 0) (Nat.le_of_ble_eq_true rfl) (Nat.le_of_ble_eq_true rfl) ?_
      refine J_keep [true, true, true, true, false, false, false] rfl ?_
      exact j_M_tries_2 E a0 a1 a2 h26 n _ _
def b_M_tries_81 (c43 : Int32 → Int32 → Mem → Option (LV × Mem)) (a0 : Nat) (a1 : Int32) (a2 : Int32) (a3 : Int32) (a4 : Int32) (a5 : Int32) (a6 : Int32)  (μ : Mem) : Option (LV × Mem) := (c43 a5 (a6 + 1) μ)
set_option maxRecDepth 20000 in
theorem j_M_tries_81 (E : EV) (a0 : Nat) (a1 : Int32) (a2 : Int32) (a3 : Int32) (a4 : Int32) (a5 : Int32) (a6 : Int32)  (μ : Mem) {c43 : Int32 → Int32 → Mem → Option (LV × Mem)} (h43 : ∀ (b5 : Int32) (b6 : Int32)  (μ : Mem), J E I_M_tries (rmk 1 0 0) (QR E I_M_tries (rmk 1 0 0)) 0 0 μ 43 [some (.inr a0), some (.inl a1), some (.inl a2), some (.inl a3), some (.inl a4), some (.inl b5), some (.inl b6)] [] (c43 b5 b6 μ)) : J E I_M_tries (rmk 1 0 0) (QR E I_M_tries (rmk 1 0 0)) 0 0 μ 81 [some (.inr a0), some (.inl a1), some (.inl a2), some (.inl a3), some (.inl a4), some (.inl a5), some (.inl a6)] [] (b_M_tries_81 c43 a0 a1 a2 a3 a4 a5 a6 μ) := by
  unfold b_M_tries_81
  refine J_iinc (v := _ + 1) (lv' := [some _, some _, some _, some _, some _, some _, some _]) zd_M_tries_81 (Nat.le_of_ble_eq_true rfl) rfl (by rfl) rfl ?_
  refine J_goto (tgt := 43) zd_M_tries_84 rfl ?_
  refine J_wid (k := 0) (n := 0) (Nat.le_of_ble_eq_true rfl) (Nat.le_of_ble_eq_true rfl) ?_
  refine J_keep [true, true, true, true, true, true, true] rfl ?_
  exact h43 _ _ _
def k_M_tries_43 (c87 : Int32 → Int32 → Int32 → Mem → Option (LV × Mem)) (a0 : Nat) (a1 : Int32) (a2 : Int32) (a3 : Int32) (a4 : Int32) : Nat → Int32 → Int32 → Mem → Option (LV × Mem)
  | 0, _, _, _ => none
  | n + 1, a5, a6, μ => (if 12 ≤ a6 then (c87 a3 a4 a5 μ) else gR 10 a0 29 μ (fun r5 => aI r5 a6 μ (fun v6 => gR 10 a0 29 μ (fun r7 => aI r7 a5 μ (fun v8 => (if ((v6 * a2) / 10) ≤ ((v8 * a2) / 10) then (b_M_tries_81 (k_M_tries_43 c87 a0 a1 a2 a3 a4 n) a0 a1 a2 a3 a4 a5 a6 μ) else (b_M_tries_81 (k_M_tries_43 c87 a0 a1 a2 a3 a4 n) a0 a1 a2 a3 a4 a6 a6 μ)))))))
set_option maxRecDepth 20000 in
theorem j_M_tries_43 (E : EV) (a0 : Nat) (a1 : Int32) (a2 : Int32) (a3 : Int32) (a4 : Int32) {c87 : Int32 → Int32 → Int32 → Mem → Option (LV × Mem)} (h87 : ∀ (b3 : Int32) (b4 : Int32) (b5 : Int32)  (μ : Mem), J E I_M_tries (rmk 1 0 0) (QR E I_M_tries (rmk 1 0 0)) 0 0 μ 87 [some (.inr a0), some (.inl a1), some (.inl a2), some (.inl b3), some (.inl b4), some (.inl b5), none] [] (c87 b3 b4 b5 μ)) : ∀ (n : Nat) (a5 : Int32) (a6 : Int32) (μ : Mem), J E I_M_tries (rmk 1 0 0) (QR E I_M_tries (rmk 1 0 0)) 0 0 μ 43 [some (.inr a0), some (.inl a1), some (.inl a2), some (.inl a3), some (.inl a4), some (.inl a5), some (.inl a6)] [] (k_M_tries_43 c87 a0 a1 a2 a3 a4 n a5 a6 μ)
  | 0, _, _, _ => J_none
  | n + 1, a5, a6, μ => by
    show J E I_M_tries (rmk 1 0 0) (QR E I_M_tries (rmk 1 0 0)) 0 0 μ 43 [some (.inr a0), some (.inl a1), some (.inl a2), some (.inl a3), some (.inl a4), some (.inl a5), some (.inl a6)] [] ((if 12 ≤ a6 then (c87 a3 a4 a5 μ) else gR 10 a0 29 μ (fun r5 => aI r5 a6 μ (fun v6 => gR 10 a0 29 μ (fun r7 => aI r7 a5 μ (fun v8 => (if ((v6 * a2) / 10) ≤ ((v8 * a2) / 10) then (b_M_tries_81 (k_M_tries_43 c87 a0 a1 a2 a3 a4 n) a0 a1 a2 a3 a4 a5 a6 μ) else (b_M_tries_81 (k_M_tries_43 c87 a0 a1 a2 a3 a4 n) a0 a1 a2 a3 a4 a6 a6 μ))))))))
    refine J_iload zd_M_tries_43 rfl ?_
    refine J_bipush (v := 12) zd_M_tries_45 (by decide) ?_
    refine J_icmp_ge (tgt := 87) zd_M_tries_47 rfl ?_ ?_
    · refine J_wid (k := 0) (n := 0) (Nat.le_of_ble_eq_true rfl) (Nat.le_of_ble_eq_true rfl) ?_
      refine J_keep [true, true, true, true, true, true, false] rfl ?_
      exact h87 _ _ _ _
    · refine J_aload_n zd_M_tries_50 rfl ?_
      refine J_gR zd_M_tries_51 zf_M_83 rfl (fun r5 => ?_)
      refine J_iload zd_M_tries_54 rfl ?_
      refine J_aI zd_M_tries_56 (fun v6 => ?_)
      refine J_iload_n zd_M_tries_57 rfl ?_
      refine J_imul zd_M_tries_58 ?_
      refine J_bipush (v := 10) zd_M_tries_59 (by decide) ?_
      refine J_idivL zd_M_tries_61 (by decide) ?_
      refine J_aload_n zd_M_tries_62 rfl ?_
      refine J_gR zd_M_tries_63 zf_M_83 rfl (fun r7 => ?_)
      refine J_iload zd_M_tries_66 rfl ?_
      refine J_aI zd_M_tries_68 (fun v8 => ?_)
      refine J_iload_n zd_M_tries_69 rfl ?_
      refine J_imul zd_M_tries_70 ?_
      refine J_bipush (v := 10) zd_M_tries_71 (by decide) ?_
      refine J_idivL zd_M_tries_73 (by decide) ?_
      refine J_icmp_le (tgt := 81) zd_M_tries_74 rfl ?_ ?_
      · refine J_wid (k := 0) (n := 0) (Nat.le_of_ble_eq_true rfl) (Nat.le_of_ble_eq_true rfl) ?_
        refine J_keep [true, true, true, true, true, true, true] rfl ?_
        exact j_M_tries_81 E _ _ _ _ _ _ _ _ (j_M_tries_43 E a0 a1 a2 a3 a4 h87 n)
      · refine J_iload zd_M_tries_77 rfl ?_
        refine J_istore (lv' := [some _, some _, some _, some _, some _, some _, some _]) zd_M_tries_79 (Nat.le_of_ble_eq_true rfl) rfl ?_
        refine J_wid (k := 0) (n := 0) (Nat.le_of_ble_eq_true rfl) (Nat.le_of_ble_eq_true rfl) ?_
        refine J_keep [true, true, true, true, true, true, true] rfl ?_
        exact j_M_tries_81 E _ _ _ _ _ _ _ _ (j_M_tries_43 E a0 a1 a2 a3 a4 h87 n)
def b_M_tries_87 (c31 : Int32 → Int32 → Mem → Option (LV × Mem)) (a0 : Nat) (a1 : Int32) (a2 : Int32) (a3 : Int32) (a4 : Int32) (a5 : Int32)  (μ : Mem) : Option (LV × Mem) := gR 10 a0 29 μ (fun r9 => aI r9 a5 μ (fun v10 => nm (a3 + ((v10 * a2) / 10)) (fun v11 => gR 10 a0 29 μ (fun r12 => gR 10 a0 29 μ (fun r13 => aI r13 a5 μ (fun v14 => aS r12 a5 ((v14 * (10 - a2)) / 10) μ (fun μ15 => gR 10 a0 30 μ15 (fun r16 => aS r16 a4 a5 μ15 (fun μ17 => (c31 v11 (a4 + 1) μ17))))))))))
set_option maxRecDepth 20000 in
theorem j_M_tries_87 (E : EV) (a0 : Nat) (a1 : Int32) (a2 : Int32) (a3 : Int32) (a4 : Int32) (a5 : Int32)  (μ : Mem) {c31 : Int32 → Int32 → Mem → Option (LV × Mem)} (h31 : ∀ (b3 : Int32) (b4 : Int32)  (μ : Mem), J E I_M_tries (rmk 1 0 0) (QR E I_M_tries (rmk 1 0 0)) 0 0 μ 31 [some (.inr a0), some (.inl a1), some (.inl a2), some (.inl b3), some (.inl b4), none, none] [] (c31 b3 b4 μ)) : J E I_M_tries (rmk 1 0 0) (QR E I_M_tries (rmk 1 0 0)) 0 0 μ 87 [some (.inr a0), some (.inl a1), some (.inl a2), some (.inl a3), some (.inl a4), some (.inl a5), none] [] (b_M_tries_87 c31 a0 a1 a2 a3 a4 a5 μ) := by
  unfold b_M_tries_87
  refine J_iload_n zd_M_tries_87 rfl ?_
  refine J_aload_n zd_M_tries_88 rfl ?_
  refine J_gR zd_M_tries_89 zf_M_83 rfl (fun r9 => ?_)
  refine J_iload zd_M_tries_92 rfl ?_
  refine J_aI zd_M_tries_94 (fun v10 => ?_)
  refine J_iload_n zd_M_tries_95 rfl ?_
  refine J_imul zd_M_tries_96 ?_
  refine J_bipush (v := 10) zd_M_tries_97 (by decide) ?_
  refine J_idivL zd_M_tries_99 (by decide) ?_
  refine J_iadd zd_M_tries_100 ?_
  refine J_nm (fun v11 => ?_)
  refine J_istore_n (lv' := [some _, some _, some _, some _, some _, some _, none]) zd_M_tries_101 (Nat.le_of_ble_eq_true rfl) rfl ?_
  refine J_aload_n zd_M_tries_102 rfl ?_
  refine J_gR zd_M_tries_103 zf_M_83 rfl (fun r12 => ?_)
  refine J_iload zd_M_tries_106 rfl ?_
  refine J_aload_n zd_M_tries_108 rfl ?_
  refine J_gR zd_M_tries_109 zf_M_83 rfl (fun r13 => ?_)
  refine J_iload zd_M_tries_112 rfl ?_
  refine J_aI zd_M_tries_114 (fun v14 => ?_)
  refine J_bipush (v := 10) zd_M_tries_115 (by decide) ?_
  refine J_iload_n zd_M_tries_117 rfl ?_
  refine J_isub zd_M_tries_118 ?_
  refine J_imul zd_M_tries_119 ?_
  refine J_bipush (v := 10) zd_M_tries_120 (by decide) ?_
  refine J_idivL zd_M_tries_122 (by decide) ?_
  refine J_aS zd_M_tries_123 (fun μ15 => ?_)
  refine J_aload_n zd_M_tries_124 rfl ?_
  refine J_gR zd_M_tries_125 zf_M_86 rfl (fun r16 => ?_)
  refine J_iload zd_M_tries_128 rfl ?_
  refine J_iload zd_M_tries_130 rfl ?_
  refine J_aS zd_M_tries_132 (fun μ17 => ?_)
  refine J_iinc (v := _ + 1) (lv' := [some _, some _, some _, some _, some _, some _, none]) zd_M_tries_133 (Nat.le_of_ble_eq_true rfl) rfl (by rfl) rfl ?_
  refine J_goto (tgt := 31) zd_M_tries_136 rfl ?_
  refine J_wid (k := 0) (n := 0) (Nat.le_of_ble_eq_true rfl) (Nat.le_of_ble_eq_true rfl) ?_
  refine J_keep [true, true, true, true, true, false, false] rfl ?_
  exact h31 _ _ _
def k_M_tries_31  (a0 : Nat) (a1 : Int32) (a2 : Int32) : Nat → Int32 → Int32 → Mem → Option (LV × Mem)
  | 0, _, _, _ => none
  | n + 1, a3, a4, μ => (if a1 ≤ a4 then (some (.inl a3, μ)) else (k_M_tries_43 (fun b3 b4 b5 m_ => b_M_tries_87 (k_M_tries_31 a0 a1 a2 n) a0 a1 a2 b3 b4 b5 m_) a0 a1 a2 a3 a4 120000 0 1 μ))
set_option maxRecDepth 20000 in
theorem j_M_tries_31 (E : EV) (a0 : Nat) (a1 : Int32) (a2 : Int32)  : ∀ (n : Nat) (a3 : Int32) (a4 : Int32) (μ : Mem), J E I_M_tries (rmk 1 0 0) (QR E I_M_tries (rmk 1 0 0)) 0 0 μ 31 [some (.inr a0), some (.inl a1), some (.inl a2), some (.inl a3), some (.inl a4), none, none] [] (k_M_tries_31 a0 a1 a2 n a3 a4 μ)
  | 0, _, _, _ => J_none
  | n + 1, a3, a4, μ => by
    show J E I_M_tries (rmk 1 0 0) (QR E I_M_tries (rmk 1 0 0)) 0 0 μ 31 [some (.inr a0), some (.inl a1), some (.inl a2), some (.inl a3), some (.inl a4), none, none] [] ((if a1 ≤ a4 then (some (.inl a3, μ)) else (k_M_tries_43 (fun b3 b4 b5 m_ => b_M_tries_87 (k_M_tries_31 a0 a1 a2 n) a0 a1 a2 b3 b4 b5 m_) a0 a1 a2 a3 a4 120000 0 1 μ)))
    refine J_iload zd_M_tries_31 rfl ?_
    refine J_iload_n zd_M_tries_33 rfl ?_
    refine J_icmp_ge (tgt := 139) zd_M_tries_34 rfl ?_ ?_
    · refine J_iload_n zd_M_tries_139 rfl ?_
      exact J_iret zd_M_tries_140 rfl (Nat.le_of_ble_eq_true rfl) (Nat.le_of_ble_eq_true rfl)
    · refine J_iconst (v := 0) zd_M_tries_37 (by decide) ?_
      refine J_istore (lv' := [some _, some _, some _, some _, some _, some _, none]) zd_M_tries_38 (Nat.le_of_ble_eq_true rfl) rfl ?_
      refine J_iconst (v := 1) zd_M_tries_40 (by decide) ?_
      refine J_istore (lv' := [some _, some _, some _, some _, some _, some _, some _]) zd_M_tries_41 (Nat.le_of_ble_eq_true rfl) rfl ?_
      refine J_wid (k := 0) (n := 0) (Nat.le_of_ble_eq_true rfl) (Nat.le_of_ble_eq_true rfl) ?_
      refine J_keep [true, true, true, true, true, true, true] rfl ?_
      exact j_M_tries_43 E _ _ _ _ _ (fun b3 b4 b5 m_ => j_M_tries_87 E a0 a1 a2 b3 b4 b5 m_ (j_M_tries_31 E a0 a1 a2 n)) _ _ _ _
def b_M_tries_26  (a0 : Nat) (a1 : Int32) (a2 : Int32)  (μ : Mem) : Option (LV × Mem) := (k_M_tries_31 a0 a1 a2 120000 0 0 μ)
set_option maxRecDepth 20000 in
theorem j_M_tries_26 (E : EV) (a0 : Nat) (a1 : Int32) (a2 : Int32)  (μ : Mem)  : J E I_M_tries (rmk 1 0 0) (QR E I_M_tries (rmk 1 0 0)) 0 0 μ 26 [some (.inr a0), some (.inl a1), some (.inl a2), none, none, none, none] [] (b_M_tries_26 a0 a1 a2 μ) := by
  unfold b_M_tries_26
  refine J_iconst (v := 0) zd_M_tries_26 (by decide) ?_
  refine J_istore_n (lv' := [some _, some _, some _, some _, none, none, none]) zd_M_tries_27 (Nat.le_of_ble_eq_true rfl) rfl ?_
  refine J_iconst (v := 0) zd_M_tries_28 (by decide) ?_
  refine J_istore (lv' := [some _, some _, some _, some _, some _, none, none]) zd_M_tries_29 (Nat.le_of_ble_eq_true rfl) rfl ?_
  refine J_wid (k := 0) (n := 0) (Nat.le_of_ble_eq_true rfl) (Nat.le_of_ble_eq_true rfl) ?_
  refine J_keep [true, true, true, true, true, false, false] rfl ?_
  exact j_M_tries_31 E _ _ _ _ _ _ _
def f_M_tries (a0 : Nat) (a1 : Int32) (a2 : Int32) (μ : Mem) : Option (LV × Mem) := (k_M_tries_2 (fun b0 b1 b2 m_ => b_M_tries_26 b0 b1 b2 m_) a0 a1 a2 120000 0 μ)
set_option maxRecDepth 20000 in
theorem c_M_tries (E : EV) (a0 : Nat) (a1 : Int32) (a2 : Int32) (μ : Mem) : Ct E I_M_tries (rmk 1 0 0) [.inr a0, .inl a1, .inl a2] μ (f_M_tries a0 a1 a2 μ) := by
  refine Ct.of (k := 4) (by decide +kernel) rfl ?_
  show J E I_M_tries (rmk 1 0 0) (QR E I_M_tries (rmk 1 0 0)) 0 0 μ 0 [some (.inr a0), some (.inl a1), some (.inl a2), none, none, none, none] [] (f_M_tries a0 a1 a2 μ)
  unfold f_M_tries
  refine J_iconst (v := 0) zd_M_tries_0 (by decide) ?_
  refine J_istore_n (lv' := [some _, some _, some _, some _, none, none, none]) zd_M_tries_1 (Nat.le_of_ble_eq_true rfl) rfl ?_
  refine J_wid (k := 0) (n := 0) (Nat.le_of_ble_eq_true rfl) (Nat.le_of_ble_eq_true rfl) ?_
  refine J_keep [true, true, true, true, false, false, false] rfl ?_
  exact j_M_tries_2 E _ _ _ (fun b0 b1 b2 m_ => j_M_tries_26 E b0 b1 b2 m_) _ _ _
def b_M_looks_9  (a0 : Nat)  (μ : Mem) : Option (LV × Mem) := cV 10 a0 μ (bI (f_M_no a0 (-4) μ) (fun v2 μ1 => (some (.inl v2, μ1))))
set_option maxRecDepth 20000 in
theorem j_M_looks_9 (E : EV) (a0 : Nat)  (μ : Mem)  : J E I_M_looks (rmk 2 0 0) (QR E I_M_looks (rmk 2 0 0)) 0 0 μ 9 [some (.inr a0), none, none] [] (b_M_looks_9 a0 μ) := by
  unfold b_M_looks_9
  refine J_aload_n zd_M_looks_9 rfl ?_
  refine J_bipush (v := (-4)) zd_M_looks_10 (by decide) ?_
  refine J_callVi (ci := 10) (as := [.inl _]) zd_M_looks_12 zm_M_no ⟨Nat.le_of_ble_eq_true rfl, Nat.le_of_ble_eq_true rfl⟩ zw_821 zw_823 zs_22 (by decide) rfl rfl (Nat.le_of_ble_eq_true rfl) ⟨Nat.le_of_ble_eq_true rfl, Nat.le_of_ble_eq_true rfl⟩ rfl rfl (c_M_no E _ _ _) (fun v2 μ1 => ?_)
  exact J_iret zd_M_looks_15 rfl (Nat.le_of_ble_eq_true rfl) (Nat.le_of_ble_eq_true rfl)
def b_M_looks_28  (a0 : Nat)  (μ : Mem) : Option (LV × Mem) := cV 10 a0 μ (bI (f_M_no a0 (-6) μ) (fun v4 μ3 => (some (.inl v4, μ3))))
set_option maxRecDepth 20000 in
theorem j_M_looks_28 (E : EV) (a0 : Nat)  (μ : Mem)  : J E I_M_looks (rmk 2 0 0) (QR E I_M_looks (rmk 2 0 0)) 0 0 μ 28 [some (.inr a0), none, none] [] (b_M_looks_28 a0 μ) := by
  unfold b_M_looks_28
  refine J_aload_n zd_M_looks_28 rfl ?_
  refine J_bipush (v := (-6)) zd_M_looks_29 (by decide) ?_
  refine J_callVi (ci := 10) (as := [.inl _]) zd_M_looks_31 zm_M_no ⟨Nat.le_of_ble_eq_true rfl, Nat.le_of_ble_eq_true rfl⟩ zw_821 zw_823 zs_22 (by decide) rfl rfl (Nat.le_of_ble_eq_true rfl) ⟨Nat.le_of_ble_eq_true rfl, Nat.le_of_ble_eq_true rfl⟩ rfl rfl (c_M_no E _ _ _) (fun v4 μ3 => ?_)
  exact J_iret zd_M_looks_34 rfl (Nat.le_of_ble_eq_true rfl) (Nat.le_of_ble_eq_true rfl)
def f_M_looks (a0 : Nat) (a1 : Int32) (a2 : Int32) (μ : Mem) : Option (LV × Mem) := (if a1 < 1 then (b_M_looks_9 a0 μ) else (if 0 ≤ a2 then (if 20 < a1 then (b_M_looks_28 a0 μ) else (if a2 ≤ 9 then cV 10 a0 μ (bI (f_M_tries a0 a1 a2 μ) (fun v6 μ5 => (some (.inl v6, μ5)))) else (b_M_looks_28 a0 μ))) else (b_M_looks_9 a0 μ)))
set_option maxRecDepth 20000 in
theorem c_M_looks (E : EV) (a0 : Nat) (a1 : Int32) (a2 : Int32) (μ : Mem) : Ct E I_M_looks (rmk 2 0 0) [.inr a0, .inl a1, .inl a2] μ (f_M_looks a0 a1 a2 μ) := by
  refine Ct.of (k := 0) (by decide +kernel) rfl ?_
  show J E I_M_looks (rmk 2 0 0) (QR E I_M_looks (rmk 2 0 0)) 0 0 μ 0 [some (.inr a0), some (.inl a1), some (.inl a2)] [] (f_M_looks a0 a1 a2 μ)
  unfold f_M_looks
  refine J_iload_n zd_M_looks_0 rfl ?_
  refine J_iconst (v := 1) zd_M_looks_1 (by decide) ?_
  refine J_icmp_lt (tgt := 9) zd_M_looks_2 rfl ?_ ?_
  · refine J_wid (k := 0) (n := 0) (Nat.le_of_ble_eq_true rfl) (Nat.le_of_ble_eq_true rfl) ?_
    refine J_keep [true, false, false] rfl ?_
    exact j_M_looks_9 E _ _
  · refine J_iload_n zd_M_looks_5 rfl ?_
    refine J_if_ge (tgt := 16) zd_M_looks_6 rfl ?_ ?_
    · refine J_iload_n zd_M_looks_16 rfl ?_
      refine J_bipush (v := 20) zd_M_looks_17 (by decide) ?_
      refine J_icmp_gt (tgt := 28) zd_M_looks_19 rfl ?_ ?_
      · refine J_wid (k := 0) (n := 0) (Nat.le_of_ble_eq_true rfl) (Nat.le_of_ble_eq_true rfl) ?_
        refine J_keep [true, false, false] rfl ?_
        exact j_M_looks_28 E _ _
      · refine J_iload_n zd_M_looks_22 rfl ?_
        refine J_bipush (v := 9) zd_M_looks_23 (by decide) ?_
        refine J_icmp_le (tgt := 35) zd_M_looks_25 rfl ?_ ?_
        · refine J_aload_n zd_M_looks_35 rfl ?_
          refine J_iload_n zd_M_looks_36 rfl ?_
          refine J_iload_n zd_M_looks_37 rfl ?_
          refine J_callVi (ci := 10) (as := [.inl _, .inl _]) zd_M_looks_38 zm_M_tries ⟨Nat.le_of_ble_eq_true rfl, Nat.le_of_ble_eq_true rfl⟩ zw_1021 zw_1023 zs_42 (by decide) rfl rfl (Nat.le_of_ble_eq_true rfl) ⟨Nat.le_of_ble_eq_true rfl, Nat.le_of_ble_eq_true rfl⟩ rfl rfl (c_M_tries E _ _ _ _) (fun v6 μ5 => ?_)
          exact J_iret zd_M_looks_41 rfl (Nat.le_of_ble_eq_true rfl) (Nat.le_of_ble_eq_true rfl)
        · refine J_wid (k := 0) (n := 0) (Nat.le_of_ble_eq_true rfl) (Nat.le_of_ble_eq_true rfl) ?_
          refine J_keep [true, false, false] rfl ?_
          exact j_M_looks_28 E _ _
    · refine J_wid (k := 0) (n := 0) (Nat.le_of_ble_eq_true rfl) (Nat.le_of_ble_eq_true rfl) ?_
      refine J_keep [true, false, false] rfl ?_
      exact j_M_looks_9 E _ _
def b_M_lookAt_9  (a0 : Nat)  (μ : Mem) : Option (LV × Mem) := cV 10 a0 μ (bI (f_M_no a0 (-4) μ) (fun v2 μ1 => (some (.inl v2, μ1))))
set_option maxRecDepth 20000 in
theorem j_M_lookAt_9 (E : EV) (a0 : Nat)  (μ : Mem)  : J E I_M_lookAt (rmk 2 0 0) (QR E I_M_lookAt (rmk 2 0 0)) 0 0 μ 9 [some (.inr a0), none, none, none] [] (b_M_lookAt_9 a0 μ) := by
  unfold b_M_lookAt_9
  refine J_aload_n zd_M_lookAt_9 rfl ?_
  refine J_bipush (v := (-4)) zd_M_lookAt_10 (by decide) ?_
  refine J_callVi (ci := 10) (as := [.inl _]) zd_M_lookAt_12 zm_M_no ⟨Nat.le_of_ble_eq_true rfl, Nat.le_of_ble_eq_true rfl⟩ zw_821 zw_823 zs_22 (by decide) rfl rfl (Nat.le_of_ble_eq_true rfl) ⟨Nat.le_of_ble_eq_true rfl, Nat.le_of_ble_eq_true rfl⟩ rfl rfl (c_M_no E _ _ _) (fun v2 μ1 => ?_)
  exact J_iret zd_M_lookAt_15 rfl (Nat.le_of_ble_eq_true rfl) (Nat.le_of_ble_eq_true rfl)
def b_M_lookAt_28  (a0 : Nat)  (μ : Mem) : Option (LV × Mem) := cV 10 a0 μ (bI (f_M_no a0 (-6) μ) (fun v4 μ3 => (some (.inl v4, μ3))))
set_option maxRecDepth 20000 in
theorem j_M_lookAt_28 (E : EV) (a0 : Nat)  (μ : Mem)  : J E I_M_lookAt (rmk 2 0 0) (QR E I_M_lookAt (rmk 2 0 0)) 0 0 μ 28 [some (.inr a0), none, none, none] [] (b_M_lookAt_28 a0 μ) := by
  unfold b_M_lookAt_28
  refine J_aload_n zd_M_lookAt_28 rfl ?_
  refine J_bipush (v := (-6)) zd_M_lookAt_29 (by decide) ?_
  refine J_callVi (ci := 10) (as := [.inl _]) zd_M_lookAt_31 zm_M_no ⟨Nat.le_of_ble_eq_true rfl, Nat.le_of_ble_eq_true rfl⟩ zw_821 zw_823 zs_22 (by decide) rfl rfl (Nat.le_of_ble_eq_true rfl) ⟨Nat.le_of_ble_eq_true rfl, Nat.le_of_ble_eq_true rfl⟩ rfl rfl (c_M_no E _ _ _) (fun v4 μ3 => ?_)
  exact J_iret zd_M_lookAt_34 rfl (Nat.le_of_ble_eq_true rfl) (Nat.le_of_ble_eq_true rfl)
def f_M_lookAt (a0 : Nat) (a1 : Int32) (a2 : Int32) (a3 : Int32) (μ : Mem) : Option (LV × Mem) := (if a1 < 1 then (b_M_lookAt_9 a0 μ) else (if 0 ≤ a2 then (if 20 < a1 then (b_M_lookAt_28 a0 μ) else (if a2 ≤ 9 then (if a3 < 0 then (some (.inl (-9), μ)) else (if a3 < a1 then cV 10 a0 μ (bI (f_M_tries a0 a1 a2 μ) (fun v6 μ5 => gR 10 a0 30 μ5 (fun r7 => aI r7 a3 μ5 (fun v8 => (some (.inl v8, μ5)))))) else (some (.inl (-9), μ)))) else (b_M_lookAt_28 a0 μ))) else (b_M_lookAt_9 a0 μ)))
set_option maxRecDepth 20000 in
theorem c_M_lookAt (E : EV) (a0 : Nat) (a1 : Int32) (a2 : Int32) (a3 : Int32) (μ : Mem) : Ct E I_M_lookAt (rmk 2 0 0) [.inr a0, .inl a1, .inl a2, .inl a3] μ (f_M_lookAt a0 a1 a2 a3 μ) := by
  refine Ct.of (k := 0) (by decide +kernel) rfl ?_
  show J E I_M_lookAt (rmk 2 0 0) (QR E I_M_lookAt (rmk 2 0 0)) 0 0 μ 0 [some (.inr a0), some (.inl a1), some (.inl a2), some (.inl a3)] [] (f_M_lookAt a0 a1 a2 a3 μ)
  unfold f_M_lookAt
  refine J_iload_n zd_M_lookAt_0 rfl ?_
  refine J_iconst (v := 1) zd_M_lookAt_1 (by decide) ?_
  refine J_icmp_lt (tgt := 9) zd_M_lookAt_2 rfl ?_ ?_
  · refine J_wid (k := 0) (n := 0) (Nat.le_of_ble_eq_true rfl) (Nat.le_of_ble_eq_true rfl) ?_
    refine J_keep [true, false, false, false] rfl ?_
    exact j_M_lookAt_9 E _ _
  · refine J_iload_n zd_M_lookAt_5 rfl ?_
    refine J_if_ge (tgt := 16) zd_M_lookAt_6 rfl ?_ ?_
    · refine J_iload_n zd_M_lookAt_16 rfl ?_
      refine J_bipush (v := 20) zd_M_lookAt_17 (by decide) ?_
      refine J_icmp_gt (tgt := 28) zd_M_lookAt_19 rfl ?_ ?_
      · refine J_wid (k := 0) (n := 0) (Nat.le_of_ble_eq_true rfl) (Nat.le_of_ble_eq_true rfl) ?_
        refine J_keep [true, false, false, false] rfl ?_
        exact j_M_lookAt_28 E _ _
      · refine J_iload_n zd_M_lookAt_22 rfl ?_
        refine J_bipush (v := 9) zd_M_lookAt_23 (by decide) ?_
        refine J_icmp_le (tgt := 35) zd_M_lookAt_25 rfl ?_ ?_
        · refine J_iload_n zd_M_lookAt_35 rfl ?_
          refine J_if_lt (tgt := 44) zd_M_lookAt_36 rfl ?_ ?_
          · refine J_bipush (v := (-9)) zd_M_lookAt_44 (by decide) ?_
            exact J_iret zd_M_lookAt_46 rfl (Nat.le_of_ble_eq_true rfl) (Nat.le_of_ble_eq_true rfl)
          · refine J_iload_n zd_M_lookAt_39 rfl ?_
            refine J_iload_n zd_M_lookAt_40 rfl ?_
            refine J_icmp_lt (tgt := 47) zd_M_lookAt_41 rfl ?_ ?_
            · refine J_aload_n zd_M_lookAt_47 rfl ?_
              refine J_iload_n zd_M_lookAt_48 rfl ?_
              refine J_iload_n zd_M_lookAt_49 rfl ?_
              refine J_callVi (ci := 10) (as := [.inl _, .inl _]) zd_M_lookAt_50 zm_M_tries ⟨Nat.le_of_ble_eq_true rfl, Nat.le_of_ble_eq_true rfl⟩ zw_1021 zw_1023 zs_42 (by decide) rfl rfl (Nat.le_of_ble_eq_true rfl) ⟨Nat.le_of_ble_eq_true rfl, Nat.le_of_ble_eq_true rfl⟩ rfl rfl (c_M_tries E _ _ _ _) (fun v6 μ5 => ?_)
              refine J_pop zd_M_lookAt_53 ?_
              refine J_aload_n zd_M_lookAt_54 rfl ?_
              refine J_gR zd_M_lookAt_55 zf_M_86 rfl (fun r7 => ?_)
              refine J_iload_n zd_M_lookAt_58 rfl ?_
              refine J_aI zd_M_lookAt_59 (fun v8 => ?_)
              exact J_iret zd_M_lookAt_60 rfl (Nat.le_of_ble_eq_true rfl) (Nat.le_of_ble_eq_true rfl)
            · refine J_bipush (v := (-9)) zd_M_lookAt_44 (by decide) ?_
              exact J_iret zd_M_lookAt_46 rfl (Nat.le_of_ble_eq_true rfl) (Nat.le_of_ble_eq_true rfl)
        · refine J_wid (k := 0) (n := 0) (Nat.le_of_ble_eq_true rfl) (Nat.le_of_ble_eq_true rfl) ?_
          refine J_keep [true, false, false, false] rfl ?_
          exact j_M_lookAt_28 E _ _
    · refine J_wid (k := 0) (n := 0) (Nat.le_of_ble_eq_true rfl) (Nat.le_of_ble_eq_true rfl) ?_
      refine J_keep [true, false, false, false] rfl ?_
      exact j_M_lookAt_9 E _ _
def f_M_rest (a0 : Nat) (a1 : Int32) (a2 : Int32) (μ : Mem) : Option (LV × Mem) := cV 10 a0 μ (bI (f_M_isPerson a0 a1 μ) (fun v2 μ1 => (if v2 = 0 then cV 10 a0 μ1 (bI (f_M_no a0 (-1) μ1) (fun v13 μ12 => (some (.inl v13, μ12)))) else gI 10 a0 0 μ1 (fun v3 => (if v3 ≤ a2 then (if a2 ≤ 200000 then gR 10 a0 12 μ1 (fun r4 => aI r4 a1 μ1 (fun v5 => gR 10 a0 12 μ1 (fun r6 => aS r6 a1 a2 μ1 (fun μ7 => (some (.inl v5, μ7)))))) else cV 10 a0 μ1 (bI (f_M_no a0 (-6) μ1) (fun v9 μ8 => (some (.inl v9, μ8))))) else cV 10 a0 μ1 (bI (f_M_no a0 (-4) μ1) (fun v11 μ10 => (some (.inl v11, μ10)))))))))
set_option maxRecDepth 20000 in
theorem c_M_rest (E : EV) (a0 : Nat) (a1 : Int32) (a2 : Int32) (μ : Mem) : Ct E I_M_rest (rmk 2 0 0) [.inr a0, .inl a1, .inl a2] μ (f_M_rest a0 a1 a2 μ) := by
  refine Ct.of (k := 1) (by decide +kernel) rfl ?_
  show J E I_M_rest (rmk 2 0 0) (QR E I_M_rest (rmk 2 0 0)) 0 0 μ 0 [some (.inr a0), some (.inl a1), some (.inl a2), none] [] (f_M_rest a0 a1 a2 μ)
  unfold f_M_rest
  refine J_aload_n zd_M_rest_0 rfl ?_
  refine J_iload_n zd_M_rest_1 rfl ?_
  refine J_callVi (ci := 10) (as := [.inl _]) zd_M_rest_2 zm_M_isPerson ⟨Nat.le_of_ble_eq_true rfl, Nat.le_of_ble_eq_true rfl⟩ zw_833 zw_835 zs_23 (by decide) rfl rfl (Nat.le_of_ble_eq_true rfl) ⟨Nat.le_of_ble_eq_true rfl, Nat.le_of_ble_eq_true rfl⟩ rfl rfl (c_M_isPerson E _ _ _) (fun v2 μ1 => ?_)
  refine J_if_ne (tgt := 14) zd_M_rest_5 rfl ?_ ?_
  · refine J_iload_n zd_M_rest_14 rfl ?_
    refine J_aload_n zd_M_rest_15 rfl ?_
    refine J_gI zd_M_rest_16 zf_M_119 rfl (fun v3 => ?_)
    refine J_icmp_ge (tgt := 29) zd_M_rest_19 rfl ?_ ?_
    · refine J_iload_n zd_M_rest_29 rfl ?_
      refine J_ldc zd_M_rest_30 zw_911 ?_
      refine J_icmp_le (tgt := 42) zd_M_rest_32 rfl ?_ ?_
      · refine J_aload_n zd_M_rest_42 rfl ?_
        refine J_gR zd_M_rest_43 zf_M_32 rfl (fun r4 => ?_)
        refine J_iload_n zd_M_rest_46 rfl ?_
        refine J_aI zd_M_rest_47 (fun v5 => ?_)
        refine J_istore_n (lv' := [some _, some _, some _, some _]) zd_M_rest_48 (Nat.le_of_ble_eq_true rfl) rfl ?_
        refine J_aload_n zd_M_rest_49 rfl ?_
        refine J_gR zd_M_rest_50 zf_M_32 rfl (fun r6 => ?_)
        refine J_iload_n zd_M_rest_53 rfl ?_
        refine J_iload_n zd_M_rest_54 rfl ?_
        refine J_aS zd_M_rest_55 (fun μ7 => ?_)
        refine J_iload_n zd_M_rest_56 rfl ?_
        exact J_iret zd_M_rest_57 rfl (Nat.le_of_ble_eq_true rfl) (Nat.le_of_ble_eq_true rfl)
      · refine J_aload_n zd_M_rest_35 rfl ?_
        refine J_bipush (v := (-6)) zd_M_rest_36 (by decide) ?_
        refine J_callVi (ci := 10) (as := [.inl _]) zd_M_rest_38 zm_M_no ⟨Nat.le_of_ble_eq_true rfl, Nat.le_of_ble_eq_true rfl⟩ zw_821 zw_823 zs_22 (by decide) rfl rfl (Nat.le_of_ble_eq_true rfl) ⟨Nat.le_of_ble_eq_true rfl, Nat.le_of_ble_eq_true rfl⟩ rfl rfl (c_M_no E _ _ _) (fun v9 μ8 => ?_)
        exact J_iret zd_M_rest_41 rfl (Nat.le_of_ble_eq_true rfl) (Nat.le_of_ble_eq_true rfl)
    · refine J_aload_n zd_M_rest_22 rfl ?_
      refine J_bipush (v := (-4)) zd_M_rest_23 (by decide) ?_
      refine J_callVi (ci := 10) (as := [.inl _]) zd_M_rest_25 zm_M_no ⟨Nat.le_of_ble_eq_true rfl, Nat.le_of_ble_eq_true rfl⟩ zw_821 zw_823 zs_22 (by decide) rfl rfl (Nat.le_of_ble_eq_true rfl) ⟨Nat.le_of_ble_eq_true rfl, Nat.le_of_ble_eq_true rfl⟩ rfl rfl (c_M_no E _ _ _) (fun v11 μ10 => ?_)
      exact J_iret zd_M_rest_28 rfl (Nat.le_of_ble_eq_true rfl) (Nat.le_of_ble_eq_true rfl)
  · refine J_aload_n zd_M_rest_8 rfl ?_
    refine J_iconst (v := (-1)) zd_M_rest_9 (by decide) ?_
    refine J_callVi (ci := 10) (as := [.inl _]) zd_M_rest_10 zm_M_no ⟨Nat.le_of_ble_eq_true rfl, Nat.le_of_ble_eq_true rfl⟩ zw_821 zw_823 zs_22 (by decide) rfl rfl (Nat.le_of_ble_eq_true rfl) ⟨Nat.le_of_ble_eq_true rfl, Nat.le_of_ble_eq_true rfl⟩ rfl rfl (c_M_no E _ _ _) (fun v13 μ12 => ?_)
    exact J_iret zd_M_rest_13 rfl (Nat.le_of_ble_eq_true rfl) (Nat.le_of_ble_eq_true rfl)
def b_M_turn_103 (c42 : Int32 → Int32 → Mem → Option (LV × Mem)) (a0 : Nat) (a1 : Int32) (a2 : Int32) (a3 : Int32) (a4 : Int32) (a5 : Int32)  (μ : Mem) : Option (LV × Mem) := (c42 a4 (a5 + 1) μ)
set_option maxRecDepth 20000 in
theorem j_M_turn_103 (E : EV) (a0 : Nat) (a1 : Int32) (a2 : Int32) (a3 : Int32) (a4 : Int32) (a5 : Int32)  (μ : Mem) {c42 : Int32 → Int32 → Mem → Option (LV × Mem)} (h42 : ∀ (b4 : Int32) (b5 : Int32)  (μ : Mem), J E I_M_turn (rmk 2 0 0) (QR E I_M_turn (rmk 2 0 0)) 0 0 μ 42 [some (.inr a0), some (.inl a1), some (.inl a2), some (.inl a3), some (.inl b4), some (.inl b5)] [] (c42 b4 b5 μ)) : J E I_M_turn (rmk 2 0 0) (QR E I_M_turn (rmk 2 0 0)) 0 0 μ 103 [some (.inr a0), some (.inl a1), some (.inl a2), some (.inl a3), some (.inl a4), some (.inl a5)] [] (b_M_turn_103 c42 a0 a1 a2 a3 a4 a5 μ) := by
  unfold b_M_turn_103
  refine J_iinc (v := _ + 1) (lv' := [some _, some _, some _, some _, some _, some _]) zd_M_turn_103 (Nat.le_of_ble_eq_true rfl) rfl (by rfl) rfl ?_
  refine J_goto (tgt := 42) zd_M_turn_106 rfl ?_
  refine J_wid (k := 0) (n := 0) (Nat.le_of_ble_eq_true rfl) (Nat.le_of_ble_eq_true rfl) ?_
  refine J_keep [true, true, true, true, true, true] rfl ?_
  exact h42 _ _ _
def b_M_turn_100 (c42 : Int32 → Int32 → Mem → Option (LV × Mem)) (a0 : Nat) (a1 : Int32) (a2 : Int32) (a3 : Int32) (a4 : Int32) (a5 : Int32)  (μ : Mem) : Option (LV × Mem) := (b_M_turn_103 c42 a0 a1 a2 a3 (a4 + 1) a5 μ)
set_option maxRecDepth 20000 in
theorem j_M_turn_100 (E : EV) (a0 : Nat) (a1 : Int32) (a2 : Int32) (a3 : Int32) (a4 : Int32) (a5 : Int32)  (μ : Mem) {c42 : Int32 → Int32 → Mem → Option (LV × Mem)} (h42 : ∀ (b4 : Int32) (b5 : Int32)  (μ : Mem), J E I_M_turn (rmk 2 0 0) (QR E I_M_turn (rmk 2 0 0)) 0 0 μ 42 [some (.inr a0), some (.inl a1), some (.inl a2), some (.inl a3), some (.inl b4), some (.inl b5)] [] (c42 b4 b5 μ)) : J E I_M_turn (rmk 2 0 0) (QR E I_M_turn (rmk 2 0 0)) 0 0 μ 100 [some (.inr a0), some (.inl a1), some (.inl a2), some (.inl a3), some (.inl a4), some (.inl a5)] [] (b_M_turn_100 c42 a0 a1 a2 a3 a4 a5 μ) := by
  unfold b_M_turn_100
  refine J_iinc (v := _ + 1) (lv' := [some _, some _, some _, some _, some _, some _]) zd_M_turn_100 (Nat.le_of_ble_eq_true rfl) rfl (by rfl) rfl ?_
  refine J_wid (k := 0) (n := 0) (Nat.le_of_ble_eq_true rfl) (Nat.le_of_ble_eq_true rfl) ?_
  refine J_keep [true, true, true, true, true, true] rfl ?_
  exact j_M_turn_103 E _ _ _ _ _ _ _ h42
def k_M_turn_42 (c109 : Int32 → Int32 → Mem → Option (LV × Mem)) (a0 : Nat) (a1 : Int32) (a2 : Int32) (a3 : Int32) : Nat → Int32 → Int32 → Mem → Option (LV × Mem)
  | 0, _, _, _ => none
  | n + 1, a4, a5, μ => gI 10 a0 1 μ (fun v1 => (if v1 ≤ a5 then (c109 a3 a4 μ) else gR 10 a0 9 μ (fun r2 => aI r2 a5 μ (fun v3 => (if v3 = a1 then gR 10 a0 11 μ (fun r4 => aI r4 a5 μ (fun v5 => gR 10 a0 11 μ (fun r6 => aI r6 a3 μ (fun v7 => (if v5 < v7 then (b_M_turn_100 (k_M_turn_42 c109 a0 a1 a2 a3 n) a0 a1 a2 a3 a4 a5 μ) else gR 10 a0 11 μ (fun r8 => aI r8 a5 μ (fun v9 => gR 10 a0 11 μ (fun r10 => aI r10 a3 μ (fun v11 => (if v9 = v11 then (if a3 ≤ a5 then (b_M_turn_103 (k_M_turn_42 c109 a0 a1 a2 a3 n) a0 a1 a2 a3 a4 a5 μ) else (b_M_turn_100 (k_M_turn_42 c109 a0 a1 a2 a3 n) a0 a1 a2 a3 a4 a5 μ)) else (b_M_turn_103 (k_M_turn_42 c109 a0 a1 a2 a3 n) a0 a1 a2 a3 a4 a5 μ))))))))))) else (b_M_turn_103 (k_M_turn_42 c109 a0 a1 a2 a3 n) a0 a1 a2 a3 a4 a5 μ))))))
set_option maxRecDepth 20000 in
theorem j_M_turn_42 (E : EV) (a0 : Nat) (a1 : Int32) (a2 : Int32) (a3 : Int32) {c109 : Int32 → Int32 → Mem → Option (LV × Mem)} (h109 : ∀ (b3 : Int32) (b4 : Int32)  (μ : Mem), J E I_M_turn (rmk 2 0 0) (QR E I_M_turn (rmk 2 0 0)) 0 0 μ 109 [some (.inr a0), some (.inl a1), some (.inl a2), some (.inl b3), some (.inl b4), none] [] (c109 b3 b4 μ)) : ∀ (n : Nat) (a4 : Int32) (a5 : Int32) (μ : Mem), J E I_M_turn (rmk 2 0 0) (QR E I_M_turn (rmk 2 0 0)) 0 0 μ 42 [some (.inr a0), some (.inl a1), some (.inl a2), some (.inl a3), some (.inl a4), some (.inl a5)] [] (k_M_turn_42 c109 a0 a1 a2 a3 n a4 a5 μ)
  | 0, _, _, _ => J_none
  | n + 1, a4, a5, μ => by
    show J E I_M_turn (rmk 2 0 0) (QR E I_M_turn (rmk 2 0 0)) 0 0 μ 42 [some (.inr a0), some (.inl a1), some (.inl a2), some (.inl a3), some (.inl a4), some (.inl a5)] [] (gI 10 a0 1 μ (fun v1 => (if v1 ≤ a5 then (c109 a3 a4 μ) else gR 10 a0 9 μ (fun r2 => aI r2 a5 μ (fun v3 => (if v3 = a1 then gR 10 a0 11 μ (fun r4 => aI r4 a5 μ (fun v5 => gR 10 a0 11 μ (fun r6 => aI r6 a3 μ (fun v7 => (if v5 < v7 then (b_M_turn_100 (k_M_turn_42 c109 a0 a1 a2 a3 n) a0 a1 a2 a3 a4 a5 μ) else gR 10 a0 11 μ (fun r8 => aI r8 a5 μ (fun v9 => gR 10 a0 11 μ (fun r10 => aI r10 a3 μ (fun v11 => (if v9 = v11 then (if a3 ≤ a5 then (b_M_turn_103 (k_M_turn_42 c109 a0 a1 a2 a3 n) a0 a1 a2 a3 a4 a5 μ) else (b_M_turn_100 (k_M_turn_42 c109 a0 a1 a2 a3 n) a0 a1 a2 a3 a4 a5 μ)) else (b_M_turn_103 (k_M_turn_42 c109 a0 a1 a2 a3 n) a0 a1 a2 a3 a4 a5 μ))))))))))) else (b_M_turn_103 (k_M_turn_42 c109 a0 a1 a2 a3 n) a0 a1 a2 a3 a4 a5 μ)))))))
    refine J_iload zd_M_turn_42 rfl ?_
    refine J_aload_n zd_M_turn_44 rfl ?_
    refine J_gI zd_M_turn_45 zf_M_110 rfl (fun v1 => ?_)
    refine J_icmp_ge (tgt := 109) zd_M_turn_48 rfl ?_ ?_
    · refine J_wid (k := 0) (n := 0) (Nat.le_of_ble_eq_true rfl) (Nat.le_of_ble_eq_true rfl) ?_
      refine J_keep [true, true, true, true, true, false] rfl ?_
      exact h109 _ _ _
    · refine J_aload_n zd_M_turn_51 rfl ?_
      refine J_gR zd_M_turn_52 zf_M_23 rfl (fun r2 => ?_)
      refine J_iload zd_M_turn_55 rfl ?_
      refine J_aI zd_M_turn_57 (fun v3 => ?_)
      refine J_iload_n zd_M_turn_58 rfl ?_
      refine J_icmp_ne (tgt := 103) zd_M_turn_59 rfl ?_ ?_
      · refine J_wid (k := 0) (n := 0) (Nat.le_of_ble_eq_true rfl) (Nat.le_of_ble_eq_true rfl) ?_
        refine J_keep [true, true, true, true, true, true] rfl ?_
        exact j_M_turn_103 E _ _ _ _ _ _ _ (j_M_turn_42 E a0 a1 a2 a3 h109 n)
      · refine J_aload_n zd_M_turn_62 rfl ?_
        refine J_gR zd_M_turn_63 zf_M_29 rfl (fun r4 => ?_)
        refine J_iload zd_M_turn_66 rfl ?_
        refine J_aI zd_M_turn_68 (fun v5 => ?_)
        refine J_aload_n zd_M_turn_69 rfl ?_
        refine J_gR zd_M_turn_70 zf_M_29 rfl (fun r6 => ?_)
        refine J_iload_n zd_M_turn_73 rfl ?_
        refine J_aI zd_M_turn_74 (fun v7 => ?_)
        refine J_icmp_lt (tgt := 100) zd_M_turn_75 rfl ?_ ?_
        · refine J_wid (k := 0) (n := 0) (Nat.le_of_ble_eq_true rfl) (Nat.le_of_ble_eq_true rfl) ?_
          refine J_keep [true, true, true, true, true, true] rfl ?_
          exact j_M_turn_100 E _ _ _ _ _ _ _ (j_M_turn_42 E a0 a1 a2 a3 h109 n)
        · refine J_aload_n zd_M_turn_78 rfl ?_
          refine J_gR zd_M_turn_79 zf_M_29 rfl (fun r8 => ?_)
          refine J_iload zd_M_turn_82 rfl ?_
          refine J_aI zd_M_turn_84 (fun v9 => ?_)
          refine J_aload_n zd_M_turn_85 rfl ?_
          refine J_gR zd_M_turn_86 zf_M_29 rfl (fun r10 => ?_)
          refine J_iload_n zd_M_turn_89 rfl ?_
          refine J_aI zd_M_turn_90 (fun v11 => ?_)
          refine J_icmp_ne (tgt := 103) zd_M_turn_91 rfl ?_ ?_
          · refine J_wid (k := 0) (n := 0) (Nat.le_of_ble_eq_true rfl) (Nat.le_of_ble_eq_true rfl) ?_
            refine J_keep [true, true, true, true, true, true] rfl ?_
            exact j_M_turn_103 E _ _ _ _ _ _ _ (j_M_turn_42 E a0 a1 a2 a3 h109 n)
          · refine J_iload zd_M_turn_94 rfl ?_
            refine J_iload_n zd_M_turn_96 rfl ?_
            refine J_icmp_ge (tgt := 103) zd_M_turn_97 rfl ?_ ?_
            · refine J_wid (k := 0) (n := 0) (Nat.le_of_ble_eq_true rfl) (Nat.le_of_ble_eq_true rfl) ?_
              refine J_keep [true, true, true, true, true, true] rfl ?_
              exact j_M_turn_103 E _ _ _ _ _ _ _ (j_M_turn_42 E a0 a1 a2 a3 h109 n)
            · refine J_wid (k := 0) (n := 0) (Nat.le_of_ble_eq_true rfl) (Nat.le_of_ble_eq_true rfl) ?_
              refine J_keep [true, true, true, true, true, true] rfl ?_
              exact j_M_turn_100 E _ _ _ _ _ _ _ (j_M_turn_42 E a0 a1 a2 a3 h109 n)
def b_M_turn_117 (c15 : Int32 → Mem → Option (LV × Mem)) (a0 : Nat) (a1 : Int32) (a2 : Int32) (a3 : Int32)  (μ : Mem) : Option (LV × Mem) := (c15 (a3 + 1) μ)
set_option maxRecDepth 20000 in
theorem j_M_turn_117 (E : EV) (a0 : Nat) (a1 : Int32) (a2 : Int32) (a3 : Int32)  (μ : Mem) {c15 : Int32 → Mem → Option (LV × Mem)} (h15 : ∀ (b3 : Int32)  (μ : Mem), J E I_M_turn (rmk 2 0 0) (QR E I_M_turn (rmk 2 0 0)) 0 0 μ 15 [some (.inr a0), some (.inl a1), some (.inl a2), some (.inl b3), none, none] [] (c15 b3 μ)) : J E I_M_turn (rmk 2 0 0) (QR E I_M_turn (rmk 2 0 0)) 0 0 μ 117 [some (.inr a0), some (.inl a1), some (.inl a2), some (.inl a3), none, none] [] (b_M_turn_117 c15 a0 a1 a2 a3 μ) := by
  unfold b_M_turn_117
  refine J_iinc (v := _ + 1) (lv' := [some _, some _, some _, some _, none, none]) zd_M_turn_117 (Nat.le_of_ble_eq_true rfl) rfl (by rfl) rfl ?_
  refine J_goto (tgt := 15) zd_M_turn_120 rfl ?_
  refine J_wid (k := 0) (n := 0) (Nat.le_of_ble_eq_true rfl) (Nat.le_of_ble_eq_true rfl) ?_
  refine J_keep [true, true, true, true, false, false] rfl ?_
  exact h15 _ _
def b_M_turn_109 (c15 : Int32 → Mem → Option (LV × Mem)) (a0 : Nat) (a1 : Int32) (a2 : Int32) (a3 : Int32) (a4 : Int32)  (μ : Mem) : Option (LV × Mem) := (if a4 = a2 then (some (.inl a3, μ)) else (b_M_turn_117 c15 a0 a1 a2 a3 μ))
set_option maxRecDepth 20000 in
theorem j_M_turn_109 (E : EV) (a0 : Nat) (a1 : Int32) (a2 : Int32) (a3 : Int32) (a4 : Int32)  (μ : Mem) {c15 : Int32 → Mem → Option (LV × Mem)} (h15 : ∀ (b3 : Int32)  (μ : Mem), J E I_M_turn (rmk 2 0 0) (QR E I_M_turn (rmk 2 0 0)) 0 0 μ 15 [some (.inr a0), some (.inl a1), some (.inl a2), some (.inl b3), none, none] [] (c15 b3 μ)) : J E I_M_turn (rmk 2 0 0) (QR E I_M_turn (rmk 2 0 0)) 0 0 μ 109 [some (.inr a0), some (.inl a1), some (.inl a2), some (.inl a3), some (.inl a4), none] [] (b_M_turn_109 c15 a0 a1 a2 a3 a4 μ) := by
  unfold b_M_turn_109
  refine J_iload zd_M_turn_109 rfl ?_
  refine J_iload_n zd_M_turn_111 rfl ?_
  refine J_icmp_ne (tgt := 117) zd_M_turn_112 rfl ?_ ?_
  · refine J_wid (k := 0) (n := 0) (Nat.le_of_ble_eq_true rfl) (Nat.le_of_ble_eq_true rfl) ?_
    refine J_keep [true, true, true, true, false, false] rfl ?_
    exact j_M_turn_117 E _ _ _ _ _ h15
  · refine J_iload_n zd_M_turn_115 rfl ?_
    exact J_iret zd_M_turn_116 rfl (Nat.le_of_ble_eq_true rfl) (Nat.le_of_ble_eq_true rfl)
def k_M_turn_15  (a0 : Nat) (a1 : Int32) (a2 : Int32) : Nat → Int32 → Mem → Option (LV × Mem)
  | 0, _, _ => none
  | n + 1, a3, μ => gI 10 a0 1 μ (fun v12 => (if v12 ≤ a3 then (some (.inl (-9), μ)) else gR 10 a0 9 μ (fun r13 => aI r13 a3 μ (fun v14 => (if v14 = a1 then (k_M_turn_42 (fun b3 b4 m_ => b_M_turn_109 (k_M_turn_15 a0 a1 a2 n) a0 a1 a2 b3 b4 m_) a0 a1 a2 a3 120000 0 0 μ) else (b_M_turn_117 (k_M_turn_15 a0 a1 a2 n) a0 a1 a2 a3 μ))))))
set_option maxRecDepth 20000 in
theorem j_M_turn_15 (E : EV) (a0 : Nat) (a1 : Int32) (a2 : Int32)  : ∀ (n : Nat) (a3 : Int32) (μ : Mem), J E I_M_turn (rmk 2 0 0) (QR E I_M_turn (rmk 2 0 0)) 0 0 μ 15 [some (.inr a0), some (.inl a1), some (.inl a2), some (.inl a3), none, none] [] (k_M_turn_15 a0 a1 a2 n a3 μ)
  | 0, _, _ => J_none
  | n + 1, a3, μ => by
    show J E I_M_turn (rmk 2 0 0) (QR E I_M_turn (rmk 2 0 0)) 0 0 μ 15 [some (.inr a0), some (.inl a1), some (.inl a2), some (.inl a3), none, none] [] (gI 10 a0 1 μ (fun v12 => (if v12 ≤ a3 then (some (.inl (-9), μ)) else gR 10 a0 9 μ (fun r13 => aI r13 a3 μ (fun v14 => (if v14 = a1 then (k_M_turn_42 (fun b3 b4 m_ => b_M_turn_109 (k_M_turn_15 a0 a1 a2 n) a0 a1 a2 b3 b4 m_) a0 a1 a2 a3 120000 0 0 μ) else (b_M_turn_117 (k_M_turn_15 a0 a1 a2 n) a0 a1 a2 a3 μ)))))))
    refine J_iload_n zd_M_turn_15 rfl ?_
    refine J_aload_n zd_M_turn_16 rfl ?_
    refine J_gI zd_M_turn_17 zf_M_110 rfl (fun v12 => ?_)
    refine J_icmp_ge (tgt := 123) zd_M_turn_20 rfl ?_ ?_
    · refine J_bipush (v := (-9)) zd_M_turn_123 (by decide) ?_
      exact J_iret zd_M_turn_125 rfl (Nat.le_of_ble_eq_true rfl) (Nat.le_of_ble_eq_true rfl)
    · refine J_aload_n zd_M_turn_23 rfl ?_
      refine J_gR zd_M_turn_24 zf_M_23 rfl (fun r13 => ?_)
      refine J_iload_n zd_M_turn_27 rfl ?_
      refine J_aI zd_M_turn_28 (fun v14 => ?_)
      refine J_iload_n zd_M_turn_29 rfl ?_
      refine J_icmp_eq (tgt := 36) zd_M_turn_30 rfl ?_ ?_
      · refine J_iconst (v := 0) zd_M_turn_36 (by decide) ?_
        refine J_istore (lv' := [some _, some _, some _, some _, some _, none]) zd_M_turn_37 (Nat.le_of_ble_eq_true rfl) rfl ?_
        refine J_iconst (v := 0) zd_M_turn_39 (by decide) ?_
        refine J_istore (lv' := [some _, some _, some _, some _, some _, some _]) zd_M_turn_40 (Nat.le_of_ble_eq_true rfl) rfl ?_
        refine J_wid (k := 0) (n := 0) (Nat.le_of_ble_eq_true rfl) (Nat.le_of_ble_eq_true rfl) ?_
        refine J_keep [true, true, true, true, true, true] rfl ?_
        exact j_M_turn_42 E _ _ _ _ (fun b3 b4 m_ => j_M_turn_109 E a0 a1 a2 b3 b4 m_ (j_M_turn_15 E a0 a1 a2 n)) _ _ _ _
      · refine J_goto (tgt := 117) zd_M_turn_33 rfl ?_
        refine J_wid (k := 0) (n := 0) (Nat.le_of_ble_eq_true rfl) (Nat.le_of_ble_eq_true rfl) ?_
        refine J_keep [true, true, true, true, false, false] rfl ?_
        exact j_M_turn_117 E _ _ _ _ _ (j_M_turn_15 E a0 a1 a2 n)
def f_M_turn (a0 : Nat) (a1 : Int32) (a2 : Int32) (μ : Mem) : Option (LV × Mem) := bI (f_M_isStation a1 μ) (fun v16 μ15 => (if v16 = 0 then cV 10 a0 μ15 (bI (f_M_no a0 (-1) μ15) (fun v18 μ17 => (some (.inl v18, μ17)))) else (k_M_turn_15 a0 a1 a2 120000 0 μ15)))
set_option maxRecDepth 20000 in
theorem c_M_turn (E : EV) (a0 : Nat) (a1 : Int32) (a2 : Int32) (μ : Mem) : Ct E I_M_turn (rmk 2 0 0) [.inr a0, .inl a1, .inl a2] μ (f_M_turn a0 a1 a2 μ) := by
  refine Ct.of (k := 3) (by decide +kernel) rfl ?_
  show J E I_M_turn (rmk 2 0 0) (QR E I_M_turn (rmk 2 0 0)) 0 0 μ 0 [some (.inr a0), some (.inl a1), some (.inl a2), none, none, none] [] (f_M_turn a0 a1 a2 μ)
  unfold f_M_turn
  refine J_iload_n zd_M_turn_0 rfl ?_
  refine J_callSi (as := [.inl _]) zd_M_turn_1 zm_M_isStation ⟨Nat.le_of_ble_eq_true rfl, Nat.le_of_ble_eq_true rfl⟩ zw_818 zw_819 rfl (Nat.le_of_ble_eq_true rfl) ⟨Nat.le_of_ble_eq_true rfl, Nat.le_of_ble_eq_true rfl⟩ rfl rfl (c_M_isStation E _ _) (fun v16 μ15 => ?_)
  refine J_if_ne (tgt := 13) zd_M_turn_4 rfl ?_ ?_
  · refine J_iconst (v := 0) zd_M_turn_13 (by decide) ?_
    refine J_istore_n (lv' := [some _, some _, some _, some _, none, none]) zd_M_turn_14 (Nat.le_of_ble_eq_true rfl) rfl ?_
    refine J_wid (k := 0) (n := 0) (Nat.le_of_ble_eq_true rfl) (Nat.le_of_ble_eq_true rfl) ?_
    refine J_keep [true, true, true, true, false, false] rfl ?_
    exact j_M_turn_15 E _ _ _ _ _ _
  · refine J_aload_n zd_M_turn_7 rfl ?_
    refine J_iconst (v := (-1)) zd_M_turn_8 (by decide) ?_
    refine J_callVi (ci := 10) (as := [.inl _]) zd_M_turn_9 zm_M_no ⟨Nat.le_of_ble_eq_true rfl, Nat.le_of_ble_eq_true rfl⟩ zw_821 zw_823 zs_22 (by decide) rfl rfl (Nat.le_of_ble_eq_true rfl) ⟨Nat.le_of_ble_eq_true rfl, Nat.le_of_ble_eq_true rfl⟩ rfl rfl (c_M_no E _ _ _) (fun v18 μ17 => ?_)
    exact J_iret zd_M_turn_12 rfl (Nat.le_of_ble_eq_true rfl) (Nat.le_of_ble_eq_true rfl)
def b_M_personOf_24  (a0 : Nat)  (μ : Mem) : Option (LV × Mem) := cV 10 a0 μ (bI (f_M_no a0 (-2) μ) (fun v2 μ1 => (some (.inl v2, μ1))))
set_option maxRecDepth 20000 in
theorem j_M_personOf_24 (E : EV) (a0 : Nat)  (μ : Mem)  : J E I_M_personOf (rmk 2 0 0) (QR E I_M_personOf (rmk 2 0 0)) 0 0 μ 24 [some (.inr a0), none, none] [] (b_M_personOf_24 a0 μ) := by
  unfold b_M_personOf_24
  refine J_aload_n zd_M_personOf_24 rfl ?_
  refine J_bipush (v := (-2)) zd_M_personOf_25 (by decide) ?_
  refine J_callVi (ci := 10) (as := [.inl _]) zd_M_personOf_27 zm_M_no ⟨Nat.le_of_ble_eq_true rfl, Nat.le_of_ble_eq_true rfl⟩ zw_821 zw_823 zs_22 (by decide) rfl rfl (Nat.le_of_ble_eq_true rfl) ⟨Nat.le_of_ble_eq_true rfl, Nat.le_of_ble_eq_true rfl⟩ rfl rfl (c_M_no E _ _ _) (fun v2 μ1 => ?_)
  exact J_iret zd_M_personOf_30 rfl (Nat.le_of_ble_eq_true rfl) (Nat.le_of_ble_eq_true rfl)
def f_M_personOf (a0 : Nat) (a1 : Int32) (a2 : Int32) (μ : Mem) : Option (LV × Mem) := cV 10 a0 μ (bI (f_M_isPerson a0 a1 μ) (fun v4 μ3 => (if v4 = 0 then cV 10 a0 μ3 (bI (f_M_no a0 (-1) μ3) (fun v18 μ17 => (some (.inl v18, μ17)))) else (if a2 < 0 then (b_M_personOf_24 a0 μ3) else (if a2 ≤ 19 then (if a2 = 0 then gR 10 a0 9 μ3 (fun r5 => aI r5 a1 μ3 (fun v6 => (some (.inl v6, μ3)))) else (if a2 = 1 then gR 10 a0 10 μ3 (fun r7 => aI r7 a1 μ3 (fun v8 => (some (.inl v8, μ3)))) else (if a2 = 2 then gR 10 a0 11 μ3 (fun r9 => aI r9 a1 μ3 (fun v10 => (some (.inl v10, μ3)))) else (if a2 = 3 then gR 10 a0 12 μ3 (fun r11 => aI r11 a1 μ3 (fun v12 => (some (.inl v12, μ3)))) else (if 12 ≤ a2 then gR 10 a0 14 μ3 (fun r13 => aI r13 (((8 * a1) + a2) - 12) μ3 (fun v14 => (some (.inl v14, μ3)))) else gR 10 a0 13 μ3 (fun r15 => aI r15 (((8 * a1) + a2) - 4) μ3 (fun v16 => (some (.inl v16, μ3))))))))) else (b_M_personOf_24 a0 μ3))))))
set_option maxRecDepth 20000 in
theorem c_M_personOf (E : EV) (a0 : Nat) (a1 : Int32) (a2 : Int32) (μ : Mem) : Ct E I_M_personOf (rmk 2 0 0) [.inr a0, .inl a1, .inl a2] μ (f_M_personOf a0 a1 a2 μ) := by
  refine Ct.of (k := 0) (by decide +kernel) rfl ?_
  show J E I_M_personOf (rmk 2 0 0) (QR E I_M_personOf (rmk 2 0 0)) 0 0 μ 0 [some (.inr a0), some (.inl a1), some (.inl a2)] [] (f_M_personOf a0 a1 a2 μ)
  unfold f_M_personOf
  refine J_aload_n zd_M_personOf_0 rfl ?_
  refine J_iload_n zd_M_personOf_1 rfl ?_
  refine J_callVi (ci := 10) (as := [.inl _]) zd_M_personOf_2 zm_M_isPerson ⟨Nat.le_of_ble_eq_true rfl, Nat.le_of_ble_eq_true rfl⟩ zw_833 zw_835 zs_23 (by decide) rfl rfl (Nat.le_of_ble_eq_true rfl) ⟨Nat.le_of_ble_eq_true rfl, Nat.le_of_ble_eq_true rfl⟩ rfl rfl (c_M_isPerson E _ _ _) (fun v4 μ3 => ?_)
  refine J_if_ne (tgt := 14) zd_M_personOf_5 rfl ?_ ?_
  · refine J_iload_n zd_M_personOf_14 rfl ?_
    refine J_if_lt (tgt := 24) zd_M_personOf_15 rfl ?_ ?_
    · refine J_wid (k := 0) (n := 0) (Nat.le_of_ble_eq_true rfl) (Nat.le_of_ble_eq_true rfl) ?_
      refine J_keep [true, false, false] rfl ?_
      exact j_M_personOf_24 E _ _
    · refine J_iload_n zd_M_personOf_18 rfl ?_
      refine J_bipush (v := 19) zd_M_personOf_19 (by decide) ?_
      refine J_icmp_le (tgt := 31) zd_M_personOf_21 rfl ?_ ?_
      · refine J_iload_n zd_M_personOf_31 rfl ?_
        refine J_swc (v := 0) (fun q0 => ?_) (fun q0 => ?_)
        · refine J_swIn (v := 0) zd_M_personOf_32 q0 (by decide) (by decide) (off := 32) (tgt := 64) (by decide) rfl ?_
          refine J_aload_n zd_M_personOf_64 rfl ?_
          refine J_gR zd_M_personOf_65 zf_M_23 rfl (fun r5 => ?_)
          refine J_iload_n zd_M_personOf_68 rfl ?_
          refine J_aI zd_M_personOf_69 (fun v6 => ?_)
          exact J_iret zd_M_personOf_70 rfl (Nat.le_of_ble_eq_true rfl) (Nat.le_of_ble_eq_true rfl)
        · skip
          refine J_swc (v := 1) (fun q1 => ?_) (fun q1 => ?_)
          · refine J_swIn (v := 1) zd_M_personOf_32 q1 (by decide) (by decide) (off := 39) (tgt := 71) (by decide) rfl ?_
            refine J_aload_n zd_M_personOf_71 rfl ?_
            refine J_gR zd_M_personOf_72 zf_M_26 rfl (fun r7 => ?_)
            refine J_iload_n zd_M_personOf_75 rfl ?_
            refine J_aI zd_M_personOf_76 (fun v8 => ?_)
            exact J_iret zd_M_personOf_77 rfl (Nat.le_of_ble_eq_true rfl) (Nat.le_of_ble_eq_true rfl)
          · skip
            refine J_swc (v := 2) (fun q2 => ?_) (fun q2 => ?_)
            · refine J_swIn (v := 2) zd_M_personOf_32 q2 (by decide) (by decide) (off := 46) (tgt := 78) (by decide) rfl ?_
              refine J_aload_n zd_M_personOf_78 rfl ?_
              refine J_gR zd_M_personOf_79 zf_M_29 rfl (fun r9 => ?_)
              refine J_iload_n zd_M_personOf_82 rfl ?_
              refine J_aI zd_M_personOf_83 (fun v10 => ?_)
              exact J_iret zd_M_personOf_84 rfl (Nat.le_of_ble_eq_true rfl) (Nat.le_of_ble_eq_true rfl)
            · skip
              refine J_swc (v := 3) (fun q3 => ?_) (fun q3 => ?_)
              · refine J_swIn (v := 3) zd_M_personOf_32 q3 (by decide) (by decide) (off := 53) (tgt := 85) (by decide) rfl ?_
                refine J_aload_n zd_M_personOf_85 rfl ?_
                refine J_gR zd_M_personOf_86 zf_M_32 rfl (fun r11 => ?_)
                refine J_iload_n zd_M_personOf_89 rfl ?_
                refine J_aI zd_M_personOf_90 (fun v12 => ?_)
                exact J_iret zd_M_personOf_91 rfl (Nat.le_of_ble_eq_true rfl) (Nat.le_of_ble_eq_true rfl)
              · skip
                refine J_swOut (tgt := 92) zd_M_personOf_32 (sw_out [0, 1, 2, 3] (List.forall_mem_cons.mpr ⟨q0, List.forall_mem_cons.mpr ⟨q1, List.forall_mem_cons.mpr ⟨q2, List.forall_mem_cons.mpr ⟨q3, fun _ h => absurd h List.not_mem_nil⟩⟩⟩⟩) (by decide +kernel)) rfl ?_
                refine J_iload_n zd_M_personOf_92 rfl ?_
                refine J_bipush (v := 12) zd_M_personOf_93 (by decide) ?_
                refine J_icmp_ge (tgt := 114) zd_M_personOf_95 rfl ?_ ?_
                · refine J_aload_n zd_M_personOf_114 rfl ?_
                  refine J_gR zd_M_personOf_115 zf_M_38 rfl (fun r13 => ?_)
                  refine J_bipush (v := 8) zd_M_personOf_118 (by decide) ?_
                  refine J_iload_n zd_M_personOf_120 rfl ?_
                  refine J_imul zd_M_personOf_121 ?_
                  refine J_iload_n zd_M_personOf_122 rfl ?_
                  refine J_iadd zd_M_personOf_123 ?_
                  refine J_bipush (v := 12) zd_M_personOf_124 (by decide) ?_
                  refine J_isub zd_M_personOf_126 ?_
                  refine J_aI zd_M_personOf_127 (fun v14 => ?_)
                  exact J_iret zd_M_personOf_128 rfl (Nat.le_of_ble_eq_true rfl) (Nat.le_of_ble_eq_true rfl)
                · refine J_aload_n zd_M_personOf_98 rfl ?_
                  refine J_gR zd_M_personOf_99 zf_M_35 rfl (fun r15 => ?_)
                  refine J_bipush (v := 8) zd_M_personOf_102 (by decide) ?_
                  refine J_iload_n zd_M_personOf_104 rfl ?_
                  refine J_imul zd_M_personOf_105 ?_
                  refine J_iload_n zd_M_personOf_106 rfl ?_
                  refine J_iadd zd_M_personOf_107 ?_
                  refine J_iconst (v := 4) zd_M_personOf_108 (by decide) ?_
                  refine J_isub zd_M_personOf_109 ?_
                  refine J_aI zd_M_personOf_110 (fun v16 => ?_)
                  refine J_goto (tgt := 128) zd_M_personOf_111 rfl ?_
                  exact J_iret zd_M_personOf_128 rfl (Nat.le_of_ble_eq_true rfl) (Nat.le_of_ble_eq_true rfl)
      · refine J_wid (k := 0) (n := 0) (Nat.le_of_ble_eq_true rfl) (Nat.le_of_ble_eq_true rfl) ?_
        refine J_keep [true, false, false] rfl ?_
        exact j_M_personOf_24 E _ _
  · refine J_aload_n zd_M_personOf_8 rfl ?_
    refine J_iconst (v := (-1)) zd_M_personOf_9 (by decide) ?_
    refine J_callVi (ci := 10) (as := [.inl _]) zd_M_personOf_10 zm_M_no ⟨Nat.le_of_ble_eq_true rfl, Nat.le_of_ble_eq_true rfl⟩ zw_821 zw_823 zs_22 (by decide) rfl rfl (Nat.le_of_ble_eq_true rfl) ⟨Nat.le_of_ble_eq_true rfl, Nat.le_of_ble_eq_true rfl⟩ rfl rfl (c_M_no E _ _ _) (fun v18 μ17 => ?_)
    exact J_iret zd_M_personOf_13 rfl (Nat.le_of_ble_eq_true rfl) (Nat.le_of_ble_eq_true rfl)
def b_M_count_113 (c94 : Int32 → Int32 → Mem → Option (LV × Mem)) (a0 : Nat) (a2 : Int32) (a3 : Int32)  (μ : Mem) : Option (LV × Mem) := (c94 a2 (a3 + 1) μ)
set_option maxRecDepth 20000 in
theorem j_M_count_113 (E : EV) (a0 : Nat) (a2 : Int32) (a3 : Int32)  (μ : Mem) {c94 : Int32 → Int32 → Mem → Option (LV × Mem)} (h94 : ∀ (b2 : Int32) (b3 : Int32)  (μ : Mem), J E I_M_count (rmk 4 0 0) (QR E I_M_count (rmk 4 0 0)) 0 0 μ 94 [some (.inr a0), none, some (.inl b2), some (.inl b3)] [] (c94 b2 b3 μ)) : J E I_M_count (rmk 4 0 0) (QR E I_M_count (rmk 4 0 0)) 0 0 μ 113 [some (.inr a0), none, some (.inl a2), some (.inl a3)] [] (b_M_count_113 c94 a0 a2 a3 μ) := by
  unfold b_M_count_113
  refine J_iinc (v := _ + 1) (lv' := [some _, none, some _, some _]) zd_M_count_113 (Nat.le_of_ble_eq_true rfl) rfl (by rfl) rfl ?_
  refine J_goto (tgt := 94) zd_M_count_116 rfl ?_
  refine J_wid (k := 0) (n := 0) (Nat.le_of_ble_eq_true rfl) (Nat.le_of_ble_eq_true rfl) ?_
  refine J_keep [true, false, true, true] rfl ?_
  exact h94 _ _ _
def k_M_count_94  (a0 : Nat) : Nat → Int32 → Int32 → Mem → Option (LV × Mem)
  | 0, _, _, _ => none
  | n + 1, a2, a3, μ => gI 10 a0 2 μ (fun v1 => (if v1 ≤ a3 then (some (.inl a2, μ)) else cV 10 a0 μ (bI (f_M_isAway a0 a3 μ) (fun v3 μ2 => (if v3 = 0 then (b_M_count_113 (k_M_count_94 a0 n) a0 a2 a3 μ2) else (b_M_count_113 (k_M_count_94 a0 n) a0 (a2 + 1) a3 μ2))))))
set_option maxRecDepth 20000 in
theorem j_M_count_94 (E : EV) (a0 : Nat)  : ∀ (n : Nat) (a2 : Int32) (a3 : Int32) (μ : Mem), J E I_M_count (rmk 4 0 0) (QR E I_M_count (rmk 4 0 0)) 0 0 μ 94 [some (.inr a0), none, some (.inl a2), some (.inl a3)] [] (k_M_count_94 a0 n a2 a3 μ)
  | 0, _, _, _ => J_none
  | n + 1, a2, a3, μ => by
    show J E I_M_count (rmk 4 0 0) (QR E I_M_count (rmk 4 0 0)) 0 0 μ 94 [some (.inr a0), none, some (.inl a2), some (.inl a3)] [] (gI 10 a0 2 μ (fun v1 => (if v1 ≤ a3 then (some (.inl a2, μ)) else cV 10 a0 μ (bI (f_M_isAway a0 a3 μ) (fun v3 μ2 => (if v3 = 0 then (b_M_count_113 (k_M_count_94 a0 n) a0 a2 a3 μ2) else (b_M_count_113 (k_M_count_94 a0 n) a0 (a2 + 1) a3 μ2)))))))
    refine J_iload_n zd_M_count_94 rfl ?_
    refine J_aload_n zd_M_count_95 rfl ?_
    refine J_gI zd_M_count_96 zf_M_113 rfl (fun v1 => ?_)
    refine J_icmp_ge (tgt := 119) zd_M_count_99 rfl ?_ ?_
    · refine J_iload_n zd_M_count_119 rfl ?_
      exact J_iret zd_M_count_120 rfl (Nat.le_of_ble_eq_true rfl) (Nat.le_of_ble_eq_true rfl)
    · refine J_aload_n zd_M_count_102 rfl ?_
      refine J_iload_n zd_M_count_103 rfl ?_
      refine J_callVi (ci := 10) (as := [.inl _]) zd_M_count_104 zm_M_isAway ⟨Nat.le_of_ble_eq_true rfl, Nat.le_of_ble_eq_true rfl⟩ zw_928 zw_930 zs_33 (by decide) rfl rfl (Nat.le_of_ble_eq_true rfl) ⟨Nat.le_of_ble_eq_true rfl, Nat.le_of_ble_eq_true rfl⟩ rfl rfl (c_M_isAway E _ _ _) (fun v3 μ2 => ?_)
      refine J_if_eq (tgt := 113) zd_M_count_107 rfl ?_ ?_
      · refine J_wid (k := 0) (n := 0) (Nat.le_of_ble_eq_true rfl) (Nat.le_of_ble_eq_true rfl) ?_
        refine J_keep [true, false, true, true] rfl ?_
        exact j_M_count_113 E _ _ _ _ (j_M_count_94 E a0 n)
      · refine J_iinc (v := _ + 1) (lv' := [some _, none, some _, some _]) zd_M_count_110 (Nat.le_of_ble_eq_true rfl) rfl (by rfl) rfl ?_
        refine J_wid (k := 0) (n := 0) (Nat.le_of_ble_eq_true rfl) (Nat.le_of_ble_eq_true rfl) ?_
        refine J_keep [true, false, true, true] rfl ?_
        exact j_M_count_113 E _ _ _ _ (j_M_count_94 E a0 n)
def b_M_count_150 (c133 : Int32 → Int32 → Mem → Option (LV × Mem)) (a0 : Nat) (a2 : Int32) (a3 : Int32)  (μ : Mem) : Option (LV × Mem) := (c133 a2 (a3 + 1) μ)
set_option maxRecDepth 20000 in
theorem j_M_count_150 (E : EV) (a0 : Nat) (a2 : Int32) (a3 : Int32)  (μ : Mem) {c133 : Int32 → Int32 → Mem → Option (LV × Mem)} (h133 : ∀ (b2 : Int32) (b3 : Int32)  (μ : Mem), J E I_M_count (rmk 4 0 0) (QR E I_M_count (rmk 4 0 0)) 0 0 μ 133 [some (.inr a0), none, some (.inl b2), some (.inl b3)] [] (c133 b2 b3 μ)) : J E I_M_count (rmk 4 0 0) (QR E I_M_count (rmk 4 0 0)) 0 0 μ 150 [some (.inr a0), none, some (.inl a2), some (.inl a3)] [] (b_M_count_150 c133 a0 a2 a3 μ) := by
  unfold b_M_count_150
  refine J_iinc (v := _ + 1) (lv' := [some _, none, some _, some _]) zd_M_count_150 (Nat.le_of_ble_eq_true rfl) rfl (by rfl) rfl ?_
  refine J_goto (tgt := 133) zd_M_count_153 rfl ?_
  refine J_wid (k := 0) (n := 0) (Nat.le_of_ble_eq_true rfl) (Nat.le_of_ble_eq_true rfl) ?_
  refine J_keep [true, false, true, true] rfl ?_
  exact h133 _ _ _
def k_M_count_133  (a0 : Nat) : Nat → Int32 → Int32 → Mem → Option (LV × Mem)
  | 0, _, _, _ => none
  | n + 1, a2, a3, μ => (if 6 ≤ a3 then (some (.inl a2, μ)) else cV 10 a0 μ (bI (f_M_standing a0 a3 μ) (fun v5 μ4 => (if v5 ≤ 0 then (b_M_count_150 (k_M_count_133 a0 n) a0 a2 a3 μ4) else (b_M_count_150 (k_M_count_133 a0 n) a0 (a2 + 1) a3 μ4)))))
set_option maxRecDepth 20000 in
theorem j_M_count_133 (E : EV) (a0 : Nat)  : ∀ (n : Nat) (a2 : Int32) (a3 : Int32) (μ : Mem), J E I_M_count (rmk 4 0 0) (QR E I_M_count (rmk 4 0 0)) 0 0 μ 133 [some (.inr a0), none, some (.inl a2), some (.inl a3)] [] (k_M_count_133 a0 n a2 a3 μ)
  | 0, _, _, _ => J_none
  | n + 1, a2, a3, μ => by
    show J E I_M_count (rmk 4 0 0) (QR E I_M_count (rmk 4 0 0)) 0 0 μ 133 [some (.inr a0), none, some (.inl a2), some (.inl a3)] [] ((if 6 ≤ a3 then (some (.inl a2, μ)) else cV 10 a0 μ (bI (f_M_standing a0 a3 μ) (fun v5 μ4 => (if v5 ≤ 0 then (b_M_count_150 (k_M_count_133 a0 n) a0 a2 a3 μ4) else (b_M_count_150 (k_M_count_133 a0 n) a0 (a2 + 1) a3 μ4))))))
    refine J_iload_n zd_M_count_133 rfl ?_
    refine J_bipush (v := 6) zd_M_count_134 (by decide) ?_
    refine J_icmp_ge (tgt := 156) zd_M_count_136 rfl ?_ ?_
    · refine J_iload_n zd_M_count_156 rfl ?_
      exact J_iret zd_M_count_157 rfl (Nat.le_of_ble_eq_true rfl) (Nat.le_of_ble_eq_true rfl)
    · refine J_aload_n zd_M_count_139 rfl ?_
      refine J_iload_n zd_M_count_140 rfl ?_
      refine J_callVi (ci := 10) (as := [.inl _]) zd_M_count_141 zm_M_standing ⟨Nat.le_of_ble_eq_true rfl, Nat.le_of_ble_eq_true rfl⟩ zw_990 zw_992 zs_40 (by decide) rfl rfl (Nat.le_of_ble_eq_true rfl) ⟨Nat.le_of_ble_eq_true rfl, Nat.le_of_ble_eq_true rfl⟩ rfl rfl (c_M_standing E _ _ _) (fun v5 μ4 => ?_)
      refine J_if_le (tgt := 150) zd_M_count_144 rfl ?_ ?_
      · refine J_wid (k := 0) (n := 0) (Nat.le_of_ble_eq_true rfl) (Nat.le_of_ble_eq_true rfl) ?_
        refine J_keep [true, false, true, true] rfl ?_
        exact j_M_count_150 E _ _ _ _ (j_M_count_133 E a0 n)
      · refine J_iinc (v := _ + 1) (lv' := [some _, none, some _, some _]) zd_M_count_147 (Nat.le_of_ble_eq_true rfl) rfl (by rfl) rfl ?_
        refine J_wid (k := 0) (n := 0) (Nat.le_of_ble_eq_true rfl) (Nat.le_of_ble_eq_true rfl) ?_
        refine J_keep [true, false, true, true] rfl ?_
        exact j_M_count_150 E _ _ _ _ (j_M_count_133 E a0 n)
def b_M_count_22  (a0 : Nat) (a1 : Int32)  (μ : Mem) : Option (LV × Mem) := (if a1 = 0 then gI 10 a0 0 μ (fun v6 => (some (.inl v6, μ))) else (if a1 = 1 then cV 10 a0 μ (bI (f_M_band a0 μ) (fun v8 μ7 => (some (.inl v8, μ7)))) else (if a1 = 2 then gI 10 a0 1 μ (fun v9 => (some (.inl v9, μ))) else (if a1 = 3 then gI 10 a0 2 μ (fun v10 => (some (.inl v10, μ))) else (if a1 = 4 then (k_M_count_94 a0 120000 0 0 μ) else (if a1 = 5 then gI 10 a0 3 μ (fun v11 => (some (.inl v11, μ))) else (if a1 = 6 then gI 10 a0 4 μ (fun v12 => (some (.inl v12, μ))) else (if a1 = 7 then (k_M_count_133 a0 120000 0 0 μ) else (some (.inl (-9), μ))))))))))
set_option maxRecDepth 20000 in
theorem j_M_count_22 (E : EV) (a0 : Nat) (a1 : Int32)  (μ : Mem)  : J E I_M_count (rmk 4 0 0) (QR E I_M_count (rmk 4 0 0)) 0 0 μ 22 [some (.inr a0), some (.inl a1), none, none] [] (b_M_count_22 a0 a1 μ) := by
  unfold b_M_count_22
  refine J_iconst (v := 0) zd_M_count_22 (by decide) ?_
  refine J_istore_n (lv' := [some _, some _, some _, none]) zd_M_count_23 (Nat.le_of_ble_eq_true rfl) rfl ?_
  refine J_iload_n zd_M_count_24 rfl ?_
  refine J_swc (v := 0) (fun q0 => ?_) (fun q0 => ?_)
  · refine J_swIn (v := 0) zd_M_count_25 q0 (by decide) (by decide) (off := 47) (tgt := 72) (by decide) rfl ?_
    refine J_aload_n zd_M_count_72 rfl ?_
    refine J_gI zd_M_count_73 zf_M_119 rfl (fun v6 => ?_)
    exact J_iret zd_M_count_76 rfl (Nat.le_of_ble_eq_true rfl) (Nat.le_of_ble_eq_true rfl)
  · skip
    refine J_swc (v := 1) (fun q1 => ?_) (fun q1 => ?_)
    · refine J_swIn (v := 1) zd_M_count_25 q1 (by decide) (by decide) (off := 52) (tgt := 77) (by decide) rfl ?_
      refine J_aload_n zd_M_count_77 rfl ?_
      refine J_callVi (ci := 10) (as := []) zd_M_count_78 zm_M_band ⟨Nat.le_of_ble_eq_true rfl, Nat.le_of_ble_eq_true rfl⟩ zw_841 zw_843 zs_24 (by decide) rfl rfl (Nat.le_of_ble_eq_true rfl) ⟨Nat.le_of_ble_eq_true rfl, Nat.le_of_ble_eq_true rfl⟩ rfl rfl (c_M_band E _ _) (fun v8 μ7 => ?_)
      exact J_iret zd_M_count_81 rfl (Nat.le_of_ble_eq_true rfl) (Nat.le_of_ble_eq_true rfl)
    · skip
      refine J_swc (v := 2) (fun q2 => ?_) (fun q2 => ?_)
      · refine J_swIn (v := 2) zd_M_count_25 q2 (by decide) (by decide) (off := 57) (tgt := 82) (by decide) rfl ?_
        refine J_aload_n zd_M_count_82 rfl ?_
        refine J_gI zd_M_count_83 zf_M_110 rfl (fun v9 => ?_)
        exact J_iret zd_M_count_86 rfl (Nat.le_of_ble_eq_true rfl) (Nat.le_of_ble_eq_true rfl)
      · skip
        refine J_swc (v := 3) (fun q3 => ?_) (fun q3 => ?_)
        · refine J_swIn (v := 3) zd_M_count_25 q3 (by decide) (by decide) (off := 62) (tgt := 87) (by decide) rfl ?_
          refine J_aload_n zd_M_count_87 rfl ?_
          refine J_gI zd_M_count_88 zf_M_113 rfl (fun v10 => ?_)
          exact J_iret zd_M_count_91 rfl (Nat.le_of_ble_eq_true rfl) (Nat.le_of_ble_eq_true rfl)
        · skip
          refine J_swc (v := 4) (fun q4 => ?_) (fun q4 => ?_)
          · refine J_swIn (v := 4) zd_M_count_25 q4 (by decide) (by decide) (off := 67) (tgt := 92) (by decide) rfl ?_
            refine J_iconst (v := 0) zd_M_count_92 (by decide) ?_
            refine J_istore_n (lv' := [some _, some _, some _, some _]) zd_M_count_93 (Nat.le_of_ble_eq_true rfl) rfl ?_
            refine J_wid (k := 0) (n := 0) (Nat.le_of_ble_eq_true rfl) (Nat.le_of_ble_eq_true rfl) ?_
            refine J_keep [true, false, true, true] rfl ?_
            exact j_M_count_94 E _ _ _ _ _
          · skip
            refine J_swc (v := 5) (fun q5 => ?_) (fun q5 => ?_)
            · refine J_swIn (v := 5) zd_M_count_25 q5 (by decide) (by decide) (off := 96) (tgt := 121) (by decide) rfl ?_
              refine J_aload_n zd_M_count_121 rfl ?_
              refine J_gI zd_M_count_122 zf_M_116 rfl (fun v11 => ?_)
              exact J_iret zd_M_count_125 rfl (Nat.le_of_ble_eq_true rfl) (Nat.le_of_ble_eq_true rfl)
            · skip
              refine J_swc (v := 6) (fun q6 => ?_) (fun q6 => ?_)
              · refine J_swIn (v := 6) zd_M_count_25 q6 (by decide) (by decide) (off := 101) (tgt := 126) (by decide) rfl ?_
                refine J_aload_n zd_M_count_126 rfl ?_
                refine J_gI zd_M_count_127 zf_M_201 rfl (fun v12 => ?_)
                exact J_iret zd_M_count_130 rfl (Nat.le_of_ble_eq_true rfl) (Nat.le_of_ble_eq_true rfl)
              · skip
                refine J_swc (v := 7) (fun q7 => ?_) (fun q7 => ?_)
                · refine J_swIn (v := 7) zd_M_count_25 q7 (by decide) (by decide) (off := 106) (tgt := 131) (by decide) rfl ?_
                  refine J_iconst (v := 0) zd_M_count_131 (by decide) ?_
                  refine J_istore_n (lv' := [some _, some _, some _, some _]) zd_M_count_132 (Nat.le_of_ble_eq_true rfl) rfl ?_
                  refine J_wid (k := 0) (n := 0) (Nat.le_of_ble_eq_true rfl) (Nat.le_of_ble_eq_true rfl) ?_
                  refine J_keep [true, false, true, true] rfl ?_
                  exact j_M_count_133 E _ _ _ _ _
                · skip
                  refine J_swOut (tgt := 158) zd_M_count_25 (sw_out [0, 1, 2, 3, 4, 5, 6, 7] (List.forall_mem_cons.mpr ⟨q0, List.forall_mem_cons.mpr ⟨q1, List.forall_mem_cons.mpr ⟨q2, List.forall_mem_cons.mpr ⟨q3, List.forall_mem_cons.mpr ⟨q4, List.forall_mem_cons.mpr ⟨q5, List.forall_mem_cons.mpr ⟨q6, List.forall_mem_cons.mpr ⟨q7, fun _ h => absurd h List.not_mem_nil⟩⟩⟩⟩⟩⟩⟩⟩) (by decide +kernel)) rfl ?_
                  refine J_bipush (v := (-9)) zd_M_count_158 (by decide) ?_
                  exact J_iret zd_M_count_160 rfl (Nat.le_of_ble_eq_true rfl) (Nat.le_of_ble_eq_true rfl)
def f_M_count (a0 : Nat) (a1 : Int32) (μ : Mem) : Option (LV × Mem) := (if a1 ≤ 10 then (b_M_count_22 a0 a1 μ) else (if 17 ≤ a1 then (b_M_count_22 a0 a1 μ) else gR 10 a0 31 μ (fun r13 => aI r13 (a1 - 10) μ (fun v14 => (some (.inl v14, μ))))))
set_option maxRecDepth 20000 in
theorem c_M_count (E : EV) (a0 : Nat) (a1 : Int32) (μ : Mem) : Ct E I_M_count (rmk 4 0 0) [.inr a0, .inl a1] μ (f_M_count a0 a1 μ) := by
  refine Ct.of (k := 2) (by decide +kernel) rfl ?_
  show J E I_M_count (rmk 4 0 0) (QR E I_M_count (rmk 4 0 0)) 0 0 μ 0 [some (.inr a0), some (.inl a1), none, none] [] (f_M_count a0 a1 μ)
  unfold f_M_count
  refine J_iload_n zd_M_count_0 rfl ?_
  refine J_bipush (v := 10) zd_M_count_1 (by decide) ?_
  refine J_icmp_le (tgt := 22) zd_M_count_3 rfl ?_ ?_
  · refine J_wid (k := 0) (n := 0) (Nat.le_of_ble_eq_true rfl) (Nat.le_of_ble_eq_true rfl) ?_
    refine J_keep [true, true, false, false] rfl ?_
    exact j_M_count_22 E _ _ _
  · refine J_iload_n zd_M_count_6 rfl ?_
    refine J_bipush (v := 17) zd_M_count_7 (by decide) ?_
    refine J_icmp_ge (tgt := 22) zd_M_count_9 rfl ?_ ?_
    · refine J_wid (k := 0) (n := 0) (Nat.le_of_ble_eq_true rfl) (Nat.le_of_ble_eq_true rfl) ?_
      refine J_keep [true, true, false, false] rfl ?_
      exact j_M_count_22 E _ _ _
    · refine J_aload_n zd_M_count_12 rfl ?_
      refine J_gR zd_M_count_13 zf_M_89 rfl (fun r13 => ?_)
      refine J_iload_n zd_M_count_16 rfl ?_
      refine J_bipush (v := 10) zd_M_count_17 (by decide) ?_
      refine J_isub zd_M_count_19 ?_
      refine J_aI zd_M_count_20 (fun v14 => ?_)
      exact J_iret zd_M_count_21 rfl (Nat.le_of_ble_eq_true rfl) (Nat.le_of_ble_eq_true rfl)
