/-! reach, first, two -/
theorem call_any {μ : Mem} {n : Nat} {C : Nat → Nat} (st : ST μ) (hn : n ≤ 20) (hL : LST 9 C n μ) (hC : ∀ c, c < n → CAL C c μ) (y : Int32) : ∃ r, f_H_callAt 4 y μ = some (.inr r, μ) := by
  rcases ix (x := y) (n := n) (by omega) with h | ⟨c, h, rfl⟩
  · exact ⟨_, HcallAt_f st hL h⟩
  · exact ⟨_, HcallAt_t st hL (by omega) h (hC c h).2.1⟩
theorem op_reach {μ : Mem} (i : Inv μ) (x y w : Int32) : Opx (f_H_reach 4 x y w) (f_M_reach 27 x y w) μ := by
  have st := i.1
  have stA : ∀ h k x, ST (si μ h k x) := fun _ _ _ => st
  have stB : ∀ h k x h' k' x', ST (si (si μ h k x) h' k' x') := fun _ _ _ _ _ _ => st
  obtain ⟨B, nb, hnb, g1, g2, g3, g4, g5, g6⟩ := i.2.2.2.2.2.2.2.2.1
  obtain ⟨C, nc, hnc, c1, c2, c3, c4⟩ := i.2.2.2.2.2.2.2.2.2.1
  rcases ix (x := x) (n := nb) (by omega) with hx | ⟨b, hb, rfl⟩
  · have m1 : f_M_isBoat 27 x (si μ 26 1 (gi μ 26 1 + 1)) = some (.inl 0, si μ 26 1 (gi μ 26 1 + 1)) := MisBoat_f (stA _ _ _) g1 hx
    obtain ⟨r, hr⟩ := call_any st hnc c2 c3 y
    exact Opx.ref (c := -1) i 1 (by decide) (by simp only [f_H_reach, rf_1, b_H_reach_24, HboatAt_f st g2 hx, hr, e_nm, e_bI, e_bR, e_bV, e_gI4, e_pI4, e_cV4, e_gR4_0, e_gR4_1, e_gR4_2, e_gR4_3, e_gR4_4, e_gR4_5, e_gR4_6, e_gR4_7, e_gR4_8, e_gR4_9, e_gR4_10, e_gR4_11, e_aI5, e_aS5, e_aI6, e_aS6, e_gI7, e_pI7, e_cV7, e_gR7, e_gI8, e_pI8, e_cV8, e_gR8, e_gI9, e_pI9, e_cV9, e_gR9, e_gI10, e_pI10, e_cV10, e_gR10, e_gI11, e_pI11, e_cV11, e_gR11_0, e_aI12, e_aS12, e_gI13, e_pI13, e_cV13, e_gR13_0, e_aI14, e_aS14, e_gI15, e_pI15, e_cV15, e_gI16, e_pI16, e_cV16, e_gR16_0, e_gR16_3, e_gR16_4, e_gR16_5, e_gR16_6, e_aI17, e_aS17, e_aI18, e_aS18, e_aI19, e_aS19, e_zI20, e_zS20, e_aI21, e_aS21, e_gI22, e_pI22, e_cV22, e_gR22_0, e_gR22_1, e_gR22_3, e_aI23, e_aS23, e_aI24, e_aS24, e_aI25, e_aS25, e_aI26, e_aS26, e_gI27, e_pI27, e_cV27, e_gR27_7, e_gR27_8, e_gR27_9, e_gR27_10, e_gR27_11, e_gR27_12, e_gR27_13, e_gR27_14, e_gR27_15, e_gR27_16, e_gR27_17, e_gR27_18, e_gR27_19, e_gR27_20, e_gR27_21, e_gR27_22, e_gR27_23, e_gR27_24, e_gR27_25, e_gR27_26, e_gR27_27, e_gR27_28, e_gR27_29, e_gR27_30, e_gR27_31, e_gR27_32, e_gR27_33, e_gR27_34, e_gR27_35, e_gR27_36, e_gR27_37, e_aI28, e_aS28, e_aI29, e_aS29, e_aI30, e_aS30, e_aI31, e_aS31, e_aI32, e_aS32, e_aI33, e_aS33, e_aI34, e_aS34, e_aI35, e_aS35, e_aI36, e_aS36, e_aI37, e_aS37, e_aI38, e_aS38, e_aI39, e_aS39, e_aI40, e_aS40, e_aI41, e_aS41, e_aI42, e_aS42, e_aI43, e_aS43, e_aI44, e_aS44, e_aI45, e_aS45, e_aI46, e_aS46, e_aI47, e_aS47, e_aI48, e_aS48, e_aI49, e_aS49, e_aI50, e_aS50, e_aI51, e_aS51, e_aI52, e_aS52, e_aI53, e_aS53, e_aI54, e_aS54, e_aI55, e_aS55, e_aI56, e_aS56, e_aI57, e_aS57, e_aI58, e_aS58, st, stA, stB, inb, and_self, if_true, if_false, i32_00, i32_10, i32_m40, i32_m60]) (by simp only [f_M_reach, no_1, b_M_reach_16, m1, e_nm, e_bI, e_bR, e_bV, e_gI4, e_pI4, e_cV4, e_gR4_0, e_gR4_1, e_gR4_2, e_gR4_3, e_gR4_4, e_gR4_5, e_gR4_6, e_gR4_7, e_gR4_8, e_gR4_9, e_gR4_10, e_gR4_11, e_aI5, e_aS5, e_aI6, e_aS6, e_gI7, e_pI7, e_cV7, e_gR7, e_gI8, e_pI8, e_cV8, e_gR8, e_gI9, e_pI9, e_cV9, e_gR9, e_gI10, e_pI10, e_cV10, e_gR10, e_gI11, e_pI11, e_cV11, e_gR11_0, e_aI12, e_aS12, e_gI13, e_pI13, e_cV13, e_gR13_0, e_aI14, e_aS14, e_gI15, e_pI15, e_cV15, e_gI16, e_pI16, e_cV16, e_gR16_0, e_gR16_3, e_gR16_4, e_gR16_5, e_gR16_6, e_aI17, e_aS17, e_aI18, e_aS18, e_aI19, e_aS19, e_zI20, e_zS20, e_aI21, e_aS21, e_gI22, e_pI22, e_cV22, e_gR22_0, e_gR22_1, e_gR22_3, e_aI23, e_aS23, e_aI24, e_aS24, e_aI25, e_aS25, e_aI26, e_aS26, e_gI27, e_pI27, e_cV27, e_gR27_7, e_gR27_8, e_gR27_9, e_gR27_10, e_gR27_11, e_gR27_12, e_gR27_13, e_gR27_14, e_gR27_15, e_gR27_16, e_gR27_17, e_gR27_18, e_gR27_19, e_gR27_20, e_gR27_21, e_gR27_22, e_gR27_23, e_gR27_24, e_gR27_25, e_gR27_26, e_gR27_27, e_gR27_28, e_gR27_29, e_gR27_30, e_gR27_31, e_gR27_32, e_gR27_33, e_gR27_34, e_gR27_35, e_gR27_36, e_gR27_37, e_aI28, e_aS28, e_aI29, e_aS29, e_aI30, e_aS30, e_aI31, e_aS31, e_aI32, e_aS32, e_aI33, e_aS33, e_aI34, e_aS34, e_aI35, e_aS35, e_aI36, e_aS36, e_aI37, e_aS37, e_aI38, e_aS38, e_aI39, e_aS39, e_aI40, e_aS40, e_aI41, e_aS41, e_aI42, e_aS42, e_aI43, e_aS43, e_aI44, e_aS44, e_aI45, e_aS45, e_aI46, e_aS46, e_aI47, e_aS47, e_aI48, e_aS48, e_aI49, e_aS49, e_aI50, e_aS50, e_aI51, e_aS51, e_aI52, e_aS52, e_aI53, e_aS53, e_aI54, e_aS54, e_aI55, e_aS55, e_aI56, e_aS56, e_aI57, e_aS57, e_aI58, e_aS58, st, stA, stB, inb, and_self, if_true, if_false, i32_00, i32_10, i32_m40, i32_m60])
  have bb := g3 b hb
  have b59 := bb.1
  have hB : ¬ B b = 0 := by omega
  have hH := HboatAt_t st g2 (by omega) hb bb.2.1
  have mb : ∀ k, f_M_isBoat 27 (nI b) (si μ 26 k (gi μ 26 k + 1)) = some (.inl 1, si μ 26 k (gi μ 26 k + 1)) := fun k => MisBoat_t (stA _ _ _) g1 (by omega) hb
  have mbm : f_M_isBoat 27 (nI b) μ = some (.inl 1, μ) := MisBoat_t st g1 (by omega) hb
  rcases ix (x := y) (n := nc) (by omega) with hy | ⟨c, hc, rfl⟩
  · have m1 : f_M_isCall 27 y (si μ 26 1 (gi μ 26 1 + 1)) = some (.inl 0, si μ 26 1 (gi μ 26 1 + 1)) := MisCall_f (stA _ _ _) c1 hy
    exact Opx.ref (c := -1) i 1 (by decide) (by simp only [f_H_reach, rf_1, b_H_reach_24, hH, hB, HcallAt_f st c2 hy, e_nm, e_bI, e_bR, e_bV, e_gI4, e_pI4, e_cV4, e_gR4_0, e_gR4_1, e_gR4_2, e_gR4_3, e_gR4_4, e_gR4_5, e_gR4_6, e_gR4_7, e_gR4_8, e_gR4_9, e_gR4_10, e_gR4_11, e_aI5, e_aS5, e_aI6, e_aS6, e_gI7, e_pI7, e_cV7, e_gR7, e_gI8, e_pI8, e_cV8, e_gR8, e_gI9, e_pI9, e_cV9, e_gR9, e_gI10, e_pI10, e_cV10, e_gR10, e_gI11, e_pI11, e_cV11, e_gR11_0, e_aI12, e_aS12, e_gI13, e_pI13, e_cV13, e_gR13_0, e_aI14, e_aS14, e_gI15, e_pI15, e_cV15, e_gI16, e_pI16, e_cV16, e_gR16_0, e_gR16_3, e_gR16_4, e_gR16_5, e_gR16_6, e_aI17, e_aS17, e_aI18, e_aS18, e_aI19, e_aS19, e_zI20, e_zS20, e_aI21, e_aS21, e_gI22, e_pI22, e_cV22, e_gR22_0, e_gR22_1, e_gR22_3, e_aI23, e_aS23, e_aI24, e_aS24, e_aI25, e_aS25, e_aI26, e_aS26, e_gI27, e_pI27, e_cV27, e_gR27_7, e_gR27_8, e_gR27_9, e_gR27_10, e_gR27_11, e_gR27_12, e_gR27_13, e_gR27_14, e_gR27_15, e_gR27_16, e_gR27_17, e_gR27_18, e_gR27_19, e_gR27_20, e_gR27_21, e_gR27_22, e_gR27_23, e_gR27_24, e_gR27_25, e_gR27_26, e_gR27_27, e_gR27_28, e_gR27_29, e_gR27_30, e_gR27_31, e_gR27_32, e_gR27_33, e_gR27_34, e_gR27_35, e_gR27_36, e_gR27_37, e_aI28, e_aS28, e_aI29, e_aS29, e_aI30, e_aS30, e_aI31, e_aS31, e_aI32, e_aS32, e_aI33, e_aS33, e_aI34, e_aS34, e_aI35, e_aS35, e_aI36, e_aS36, e_aI37, e_aS37, e_aI38, e_aS38, e_aI39, e_aS39, e_aI40, e_aS40, e_aI41, e_aS41, e_aI42, e_aS42, e_aI43, e_aS43, e_aI44, e_aS44, e_aI45, e_aS45, e_aI46, e_aS46, e_aI47, e_aS47, e_aI48, e_aS48, e_aI49, e_aS49, e_aI50, e_aS50, e_aI51, e_aS51, e_aI52, e_aS52, e_aI53, e_aS53, e_aI54, e_aS54, e_aI55, e_aS55, e_aI56, e_aS56, e_aI57, e_aS57, e_aI58, e_aS58, st, stA, stB, inb, and_self, if_true, if_false, i32_00, i32_10, i32_m40, i32_m60]) (by simp only [f_M_reach, no_1, b_M_reach_16, mb 1, m1, e_nm, e_bI, e_bR, e_bV, e_gI4, e_pI4, e_cV4, e_gR4_0, e_gR4_1, e_gR4_2, e_gR4_3, e_gR4_4, e_gR4_5, e_gR4_6, e_gR4_7, e_gR4_8, e_gR4_9, e_gR4_10, e_gR4_11, e_aI5, e_aS5, e_aI6, e_aS6, e_gI7, e_pI7, e_cV7, e_gR7, e_gI8, e_pI8, e_cV8, e_gR8, e_gI9, e_pI9, e_cV9, e_gR9, e_gI10, e_pI10, e_cV10, e_gR10, e_gI11, e_pI11, e_cV11, e_gR11_0, e_aI12, e_aS12, e_gI13, e_pI13, e_cV13, e_gR13_0, e_aI14, e_aS14, e_gI15, e_pI15, e_cV15, e_gI16, e_pI16, e_cV16, e_gR16_0, e_gR16_3, e_gR16_4, e_gR16_5, e_gR16_6, e_aI17, e_aS17, e_aI18, e_aS18, e_aI19, e_aS19, e_zI20, e_zS20, e_aI21, e_aS21, e_gI22, e_pI22, e_cV22, e_gR22_0, e_gR22_1, e_gR22_3, e_aI23, e_aS23, e_aI24, e_aS24, e_aI25, e_aS25, e_aI26, e_aS26, e_gI27, e_pI27, e_cV27, e_gR27_7, e_gR27_8, e_gR27_9, e_gR27_10, e_gR27_11, e_gR27_12, e_gR27_13, e_gR27_14, e_gR27_15, e_gR27_16, e_gR27_17, e_gR27_18, e_gR27_19, e_gR27_20, e_gR27_21, e_gR27_22, e_gR27_23, e_gR27_24, e_gR27_25, e_gR27_26, e_gR27_27, e_gR27_28, e_gR27_29, e_gR27_30, e_gR27_31, e_gR27_32, e_gR27_33, e_gR27_34, e_gR27_35, e_gR27_36, e_gR27_37, e_aI28, e_aS28, e_aI29, e_aS29, e_aI30, e_aS30, e_aI31, e_aS31, e_aI32, e_aS32, e_aI33, e_aS33, e_aI34, e_aS34, e_aI35, e_aS35, e_aI36, e_aS36, e_aI37, e_aS37, e_aI38, e_aS38, e_aI39, e_aS39, e_aI40, e_aS40, e_aI41, e_aS41, e_aI42, e_aS42, e_aI43, e_aS43, e_aI44, e_aS44, e_aI45, e_aS45, e_aI46, e_aS46, e_aI47, e_aS47, e_aI48, e_aS48, e_aI49, e_aS49, e_aI50, e_aS50, e_aI51, e_aS51, e_aI52, e_aS52, e_aI53, e_aS53, e_aI54, e_aS54, e_aI55, e_aS55, e_aI56, e_aS56, e_aI57, e_aS57, e_aI58, e_aS58, st, stA, stB, inb, and_self, if_true, if_false, i32_00, i32_10, i32_m40, i32_m60])
  have cc := c3 c hc
  have c59 := cc.1
  have hC : ¬ C c = 0 := by omega
  have hK := HcallAt_t st c2 (by omega) hc cc.2.1
  have mc : ∀ k, f_M_isCall 27 (nI c) (si μ 26 k (gi μ 26 k + 1)) = some (.inl 1, si μ 26 k (gi μ 26 k + 1)) := fun k => MisCall_t (stA _ _ _) c1 (by omega) hc
  have mcm : f_M_isCall 27 (nI c) μ = some (.inl 1, μ) := MisCall_t st c1 (by omega) hc
  by_cases w0 : w < 0
  · exact Opx.ref (c := -2) i 2 (by decide) (by simp only [f_H_reach, rf_2, b_H_reach_39, hH, hB, hK, hC, w0, e_nm, e_bI, e_bR, e_bV, e_gI4, e_pI4, e_cV4, e_gR4_0, e_gR4_1, e_gR4_2, e_gR4_3, e_gR4_4, e_gR4_5, e_gR4_6, e_gR4_7, e_gR4_8, e_gR4_9, e_gR4_10, e_gR4_11, e_aI5, e_aS5, e_aI6, e_aS6, e_gI7, e_pI7, e_cV7, e_gR7, e_gI8, e_pI8, e_cV8, e_gR8, e_gI9, e_pI9, e_cV9, e_gR9, e_gI10, e_pI10, e_cV10, e_gR10, e_gI11, e_pI11, e_cV11, e_gR11_0, e_aI12, e_aS12, e_gI13, e_pI13, e_cV13, e_gR13_0, e_aI14, e_aS14, e_gI15, e_pI15, e_cV15, e_gI16, e_pI16, e_cV16, e_gR16_0, e_gR16_3, e_gR16_4, e_gR16_5, e_gR16_6, e_aI17, e_aS17, e_aI18, e_aS18, e_aI19, e_aS19, e_zI20, e_zS20, e_aI21, e_aS21, e_gI22, e_pI22, e_cV22, e_gR22_0, e_gR22_1, e_gR22_3, e_aI23, e_aS23, e_aI24, e_aS24, e_aI25, e_aS25, e_aI26, e_aS26, e_gI27, e_pI27, e_cV27, e_gR27_7, e_gR27_8, e_gR27_9, e_gR27_10, e_gR27_11, e_gR27_12, e_gR27_13, e_gR27_14, e_gR27_15, e_gR27_16, e_gR27_17, e_gR27_18, e_gR27_19, e_gR27_20, e_gR27_21, e_gR27_22, e_gR27_23, e_gR27_24, e_gR27_25, e_gR27_26, e_gR27_27, e_gR27_28, e_gR27_29, e_gR27_30, e_gR27_31, e_gR27_32, e_gR27_33, e_gR27_34, e_gR27_35, e_gR27_36, e_gR27_37, e_aI28, e_aS28, e_aI29, e_aS29, e_aI30, e_aS30, e_aI31, e_aS31, e_aI32, e_aS32, e_aI33, e_aS33, e_aI34, e_aS34, e_aI35, e_aS35, e_aI36, e_aS36, e_aI37, e_aS37, e_aI38, e_aS38, e_aI39, e_aS39, e_aI40, e_aS40, e_aI41, e_aS41, e_aI42, e_aS42, e_aI43, e_aS43, e_aI44, e_aS44, e_aI45, e_aS45, e_aI46, e_aS46, e_aI47, e_aS47, e_aI48, e_aS48, e_aI49, e_aS49, e_aI50, e_aS50, e_aI51, e_aS51, e_aI52, e_aS52, e_aI53, e_aS53, e_aI54, e_aS54, e_aI55, e_aS55, e_aI56, e_aS56, e_aI57, e_aS57, e_aI58, e_aS58, st, stA, stB, inb, and_self, if_true, if_false, i32_00, i32_10, i32_m40, i32_m60]) (by simp only [f_M_reach, no_2, b_M_reach_31, mb 2, mc 2, w0, e_nm, e_bI, e_bR, e_bV, e_gI4, e_pI4, e_cV4, e_gR4_0, e_gR4_1, e_gR4_2, e_gR4_3, e_gR4_4, e_gR4_5, e_gR4_6, e_gR4_7, e_gR4_8, e_gR4_9, e_gR4_10, e_gR4_11, e_aI5, e_aS5, e_aI6, e_aS6, e_gI7, e_pI7, e_cV7, e_gR7, e_gI8, e_pI8, e_cV8, e_gR8, e_gI9, e_pI9, e_cV9, e_gR9, e_gI10, e_pI10, e_cV10, e_gR10, e_gI11, e_pI11, e_cV11, e_gR11_0, e_aI12, e_aS12, e_gI13, e_pI13, e_cV13, e_gR13_0, e_aI14, e_aS14, e_gI15, e_pI15, e_cV15, e_gI16, e_pI16, e_cV16, e_gR16_0, e_gR16_3, e_gR16_4, e_gR16_5, e_gR16_6, e_aI17, e_aS17, e_aI18, e_aS18, e_aI19, e_aS19, e_zI20, e_zS20, e_aI21, e_aS21, e_gI22, e_pI22, e_cV22, e_gR22_0, e_gR22_1, e_gR22_3, e_aI23, e_aS23, e_aI24, e_aS24, e_aI25, e_aS25, e_aI26, e_aS26, e_gI27, e_pI27, e_cV27, e_gR27_7, e_gR27_8, e_gR27_9, e_gR27_10, e_gR27_11, e_gR27_12, e_gR27_13, e_gR27_14, e_gR27_15, e_gR27_16, e_gR27_17, e_gR27_18, e_gR27_19, e_gR27_20, e_gR27_21, e_gR27_22, e_gR27_23, e_gR27_24, e_gR27_25, e_gR27_26, e_gR27_27, e_gR27_28, e_gR27_29, e_gR27_30, e_gR27_31, e_gR27_32, e_gR27_33, e_gR27_34, e_gR27_35, e_gR27_36, e_gR27_37, e_aI28, e_aS28, e_aI29, e_aS29, e_aI30, e_aS30, e_aI31, e_aS31, e_aI32, e_aS32, e_aI33, e_aS33, e_aI34, e_aS34, e_aI35, e_aS35, e_aI36, e_aS36, e_aI37, e_aS37, e_aI38, e_aS38, e_aI39, e_aS39, e_aI40, e_aS40, e_aI41, e_aS41, e_aI42, e_aS42, e_aI43, e_aS43, e_aI44, e_aS44, e_aI45, e_aS45, e_aI46, e_aS46, e_aI47, e_aS47, e_aI48, e_aS48, e_aI49, e_aS49, e_aI50, e_aS50, e_aI51, e_aS51, e_aI52, e_aS52, e_aI53, e_aS53, e_aI54, e_aS54, e_aI55, e_aS55, e_aI56, e_aS56, e_aI57, e_aS57, e_aI58, e_aS58, st, stA, stB, inb, and_self, if_true, if_false, i32_00, i32_10, i32_m40, i32_m60])
  by_cases w2 : w ≤ 2
  · have ia := at_in bb
    have is := sea_in cc
    have mm := i.2.1
    have mi := i.2.2.1
    have ne := i.2.2.2.1
    have it := i.2.2.2.2.2.1
    have eM := M_reach st mm bb cc (by omega) (by omega)
    unfold f_H_reach f_M_reach
    refine Opx.rd (if w = 2 then (if can μ b c = 0 then 0 else 1) else if can μ b c = 0 then -9 else if w = 0 then lau μ b else rea μ b c) i ?_ ?_
    · rw [e_cV4 st, hH, e_bR, e_cV4 st, hK, e_bR, if_neg hB, if_neg hC, if_neg w0, if_pos w2]
      by_cases e2 : w = 2
      · rw [if_pos e2, if_pos e2, e_cV4 st, H_can st mi bb cc, e_bI]
        split <;> rfl
      · rw [if_neg e2, if_neg e2, e_cV4 st, H_can st mi bb cc, e_bI]
        by_cases h : can μ b c = 0
        · rw [if_pos h, if_pos h]
        · rw [if_neg h, if_neg h]
          by_cases e0 : w = 0
          · rw [if_pos e0, if_pos e0, e_cV4 st, H_launch st mm it ne bb, e_bI]
          · rw [if_neg e0, if_neg e0, e_cV4 st, H_reach st mm mi it ne bb cc, e_bI]
    · rw [e_cV27 st, mbm, e_bI, if_neg (by decide), e_cV27 st, mcm, e_bI, if_neg (by decide), if_neg w0, if_pos w2]
      by_cases e2 : w = 2
      · rw [if_pos e2, if_pos e2, e_cV27 st, M_canv st (by omega) (by omega) ia is, e_bI]
        split <;> rfl
      · rw [if_neg e2, if_neg e2]
        by_cases e1 : w = 1
        · rw [if_pos e1, e_cV27 st, eM, e_bI]
          by_cases h : can μ b c = 0
          · rw [if_pos h]; unfold rea; rw [if_pos h]
          · rw [if_neg h, if_neg (by rw [e1]; decide)]
        · have e0 : w = 0 := by
            rw [i32_lt] at w0
            rw [i32_le] at w2
            rw [i32_eq] at e1 e2 ⊢
            simp at w0 w2 e1 e2 ⊢
            omega
          rw [if_neg e1, e_cV27 st, M_canv st (by omega) (by omega) ia is, e_bI]
          by_cases h : can μ b c = 0
          · rw [if_pos h, if_pos h]
          · rw [if_neg h, if_neg h, if_pos e0, e_cV27 st, M_launch st mm bb (by omega), e_bI]
  · exact Opx.ref (c := -2) i 2 (by decide) (by simp only [f_H_reach, rf_2, b_H_reach_39, hH, hB, hK, hC, w0, w2, e_nm, e_bI, e_bR, e_bV, e_gI4, e_pI4, e_cV4, e_gR4_0, e_gR4_1, e_gR4_2, e_gR4_3, e_gR4_4, e_gR4_5, e_gR4_6, e_gR4_7, e_gR4_8, e_gR4_9, e_gR4_10, e_gR4_11, e_aI5, e_aS5, e_aI6, e_aS6, e_gI7, e_pI7, e_cV7, e_gR7, e_gI8, e_pI8, e_cV8, e_gR8, e_gI9, e_pI9, e_cV9, e_gR9, e_gI10, e_pI10, e_cV10, e_gR10, e_gI11, e_pI11, e_cV11, e_gR11_0, e_aI12, e_aS12, e_gI13, e_pI13, e_cV13, e_gR13_0, e_aI14, e_aS14, e_gI15, e_pI15, e_cV15, e_gI16, e_pI16, e_cV16, e_gR16_0, e_gR16_3, e_gR16_4, e_gR16_5, e_gR16_6, e_aI17, e_aS17, e_aI18, e_aS18, e_aI19, e_aS19, e_zI20, e_zS20, e_aI21, e_aS21, e_gI22, e_pI22, e_cV22, e_gR22_0, e_gR22_1, e_gR22_3, e_aI23, e_aS23, e_aI24, e_aS24, e_aI25, e_aS25, e_aI26, e_aS26, e_gI27, e_pI27, e_cV27, e_gR27_7, e_gR27_8, e_gR27_9, e_gR27_10, e_gR27_11, e_gR27_12, e_gR27_13, e_gR27_14, e_gR27_15, e_gR27_16, e_gR27_17, e_gR27_18, e_gR27_19, e_gR27_20, e_gR27_21, e_gR27_22, e_gR27_23, e_gR27_24, e_gR27_25, e_gR27_26, e_gR27_27, e_gR27_28, e_gR27_29, e_gR27_30, e_gR27_31, e_gR27_32, e_gR27_33, e_gR27_34, e_gR27_35, e_gR27_36, e_gR27_37, e_aI28, e_aS28, e_aI29, e_aS29, e_aI30, e_aS30, e_aI31, e_aS31, e_aI32, e_aS32, e_aI33, e_aS33, e_aI34, e_aS34, e_aI35, e_aS35, e_aI36, e_aS36, e_aI37, e_aS37, e_aI38, e_aS38, e_aI39, e_aS39, e_aI40, e_aS40, e_aI41, e_aS41, e_aI42, e_aS42, e_aI43, e_aS43, e_aI44, e_aS44, e_aI45, e_aS45, e_aI46, e_aS46, e_aI47, e_aS47, e_aI48, e_aS48, e_aI49, e_aS49, e_aI50, e_aS50, e_aI51, e_aS51, e_aI52, e_aS52, e_aI53, e_aS53, e_aI54, e_aS54, e_aI55, e_aS55, e_aI56, e_aS56, e_aI57, e_aS57, e_aI58, e_aS58, st, stA, stB, inb, and_self, if_true, if_false, i32_00, i32_10, i32_m40, i32_m60]) (by simp only [f_M_reach, no_2, b_M_reach_31, mb 2, mc 2, w0, w2, e_nm, e_bI, e_bR, e_bV, e_gI4, e_pI4, e_cV4, e_gR4_0, e_gR4_1, e_gR4_2, e_gR4_3, e_gR4_4, e_gR4_5, e_gR4_6, e_gR4_7, e_gR4_8, e_gR4_9, e_gR4_10, e_gR4_11, e_aI5, e_aS5, e_aI6, e_aS6, e_gI7, e_pI7, e_cV7, e_gR7, e_gI8, e_pI8, e_cV8, e_gR8, e_gI9, e_pI9, e_cV9, e_gR9, e_gI10, e_pI10, e_cV10, e_gR10, e_gI11, e_pI11, e_cV11, e_gR11_0, e_aI12, e_aS12, e_gI13, e_pI13, e_cV13, e_gR13_0, e_aI14, e_aS14, e_gI15, e_pI15, e_cV15, e_gI16, e_pI16, e_cV16, e_gR16_0, e_gR16_3, e_gR16_4, e_gR16_5, e_gR16_6, e_aI17, e_aS17, e_aI18, e_aS18, e_aI19, e_aS19, e_zI20, e_zS20, e_aI21, e_aS21, e_gI22, e_pI22, e_cV22, e_gR22_0, e_gR22_1, e_gR22_3, e_aI23, e_aS23, e_aI24, e_aS24, e_aI25, e_aS25, e_aI26, e_aS26, e_gI27, e_pI27, e_cV27, e_gR27_7, e_gR27_8, e_gR27_9, e_gR27_10, e_gR27_11, e_gR27_12, e_gR27_13, e_gR27_14, e_gR27_15, e_gR27_16, e_gR27_17, e_gR27_18, e_gR27_19, e_gR27_20, e_gR27_21, e_gR27_22, e_gR27_23, e_gR27_24, e_gR27_25, e_gR27_26, e_gR27_27, e_gR27_28, e_gR27_29, e_gR27_30, e_gR27_31, e_gR27_32, e_gR27_33, e_gR27_34, e_gR27_35, e_gR27_36, e_gR27_37, e_aI28, e_aS28, e_aI29, e_aS29, e_aI30, e_aS30, e_aI31, e_aS31, e_aI32, e_aS32, e_aI33, e_aS33, e_aI34, e_aS34, e_aI35, e_aS35, e_aI36, e_aS36, e_aI37, e_aS37, e_aI38, e_aS38, e_aI39, e_aS39, e_aI40, e_aS40, e_aI41, e_aS41, e_aI42, e_aS42, e_aI43, e_aS43, e_aI44, e_aS44, e_aI45, e_aS45, e_aI46, e_aS46, e_aI47, e_aS47, e_aI48, e_aS48, e_aI49, e_aS49, e_aI50, e_aS50, e_aI51, e_aS51, e_aI52, e_aS52, e_aI53, e_aS53, e_aI54, e_aS54, e_aI55, e_aS55, e_aI56, e_aS56, e_aI57, e_aS57, e_aI58, e_aS58, st, stA, stB, inb, and_self, if_true, if_false, i32_00, i32_10, i32_m40, i32_m60])
/-- who is first, of the first ones -/
def fsb (r : Nat → Int32) : Nat → Int32 × Int32
  | 0 => (-9, 0)
  | k + 1 => if r k = -9 then fsb r k else if (fsb r k).1 = -9 then (nI k, r k) else if (fsb r k).2 ≤ r k then fsb r k else (nI k, r k)
theorem fsb_in (r : Nat → Int32) : ∀ k, (fsb r k).1 = -9 ∨ ∃ j, j < k ∧ (fsb r k).1 = nI j ∧ (fsb r k).2 = r j
  | 0 => Or.inl rfl
  | k + 1 => by
    have old : (fsb r k).1 = -9 ∨ ∃ j, j < k + 1 ∧ (fsb r k).1 = nI j ∧ (fsb r k).2 = r j := by
      rcases fsb_in r k with h | ⟨j, h, q⟩
      · exact Or.inl h
      · exact Or.inr ⟨j, by omega, q⟩
    have new : (nI k : Int32) = -9 ∨ ∃ j, j < k + 1 ∧ (nI k : Int32) = nI j ∧ r k = r j := Or.inr ⟨k, by omega, rfl, rfl⟩
    simp only [fsb]
    split
    · exact old
    · split
      · exact new
      · split
        · exact old
        · exact new
theorem fsb_s (r : Nat → Int32) (k : Nat) : fsb r (k + 1) = if r k = -9 then fsb r k else if (fsb r k).1 = -9 then (nI k, r k) else if (fsb r k).2 ≤ r k then fsb r k else (nI k, r k) := rfl
section FI
variable {μ : Mem} {B C : Nat → Nat} {c nb : Nat}
theorem H_first_loop (st : ST μ) (mm : I_misc μ) (mi : I_miles μ) (it : I_tide μ) (ne : I_needs μ) (hn : nb ≤ 8) (h2 : LST 8 B nb μ) (h3 : ∀ b, b < nb → BOA B b μ) (cc : CAL C c μ) : ∀ f k, k ≤ nb → nb - k < f → k_H_first_25 4 (C c) f (fsb (fun b => rea μ b c) k).1 (fsb (fun b => rea μ b c) k).2 (nI k) μ = some (.inl (fsb (fun b => rea μ b c) nb).1, μ)
  | 0, k, _, h => by omega
  | f + 1, k, hk, h => by
    simp only [k_H_first_25]
    rw [e_gR4_3 st, e_cV8 st, AL_size (st_h8 st), e_bI, h2.1]
    by_cases e : k = nb
    · subst e
      rw [if_pos (nI_le (Nat.le_refl _) (by omega))]
    · have ih := H_first_loop st mm mi it ne hn h2 h3 cc f (k + 1) (by omega) (by omega)
      have bb := h3 k (by omega)
      rw [if_neg (nI_ge (by omega) (by omega)), e_gR4_3 st, e_cV8 st, AL_get (st_h8 st) h2 (by omega) (by omega : k < nb), e_bR]
      unfold cC
      rw [if_pos (Or.inr bb.2.1), e_cV4 st, H_reach st mm mi it ne bb cc, e_bI]
      rw [← nI_1 k, fsb_s] at ih
      by_cases r : rea μ k c = -9
      · rw [if_pos r] at ih ⊢
        exact ih
      · rw [if_neg r] at ih ⊢
        by_cases q : (fsb (fun b => rea μ b c) k).1 = -9
        · rw [if_pos q] at ih ⊢
          exact ih
        · rw [if_neg q] at ih ⊢
          by_cases d : (fsb (fun b => rea μ b c) k).2 ≤ rea μ k c
          · rw [if_pos d] at ih ⊢
            exact ih
          · rw [if_neg d] at ih ⊢
            exact ih
theorem M_first_loop (st : ST μ) (mm : I_misc μ) (hn : nb ≤ 8) (h1 : gi μ 27 2 = nI nb) (h3 : ∀ b, b < nb → BOA B b μ) (cc : CAL C c μ) (hc : c < 20) : ∀ f k, k ≤ nb → nb - k < f → k_M_first_19 27 (nI c) f (fsb (fun b => rea μ b c) k).1 (nI k) μ = some (.inl (fsb (fun b => rea μ b c) nb).1, μ)
  | 0, k, _, h => by omega
  | f + 1, k, hk, h => by
    simp only [k_M_first_19]
    rw [e_gI27 st, h1]
    by_cases e : k = nb
    · subst e
      rw [if_pos (nI_le (Nat.le_refl _) (by omega))]
    · have ih := M_first_loop st mm hn h1 h3 cc hc f (k + 1) (by omega) (by omega)
      have bb := h3 k (by omega)
      rw [if_neg (nI_ge (by omega) (by omega)), e_cV27 st, M_reach st mm bb cc (by omega) hc, e_bI]
      rw [← nI_1 k, fsb_s] at ih
      by_cases r : rea μ k c = -9
      · rw [if_pos r] at ih ⊢
        exact ih
      · rw [if_neg r] at ih ⊢
        by_cases q : (fsb (fun b => rea μ b c) k).1 = -9
        · rw [if_pos q] at ih ⊢
          exact ih
        · rw [if_neg q] at ih ⊢
          rcases fsb_in (fun b => rea μ b c) k with z | ⟨j, hj, z1, z2⟩
          · exact absurd z q
          rw [z1, e_cV27 st, M_reach st mm (h3 j (by omega)) cc (by omega) hc, e_bI]
          rw [show (fsb (fun b => rea μ b c) k).2 = rea μ j c from z2] at ih
          by_cases d : rea μ j c ≤ rea μ k c
          · rw [if_pos d] at ih ⊢
            rw [z1] at ih
            exact ih
          · rw [if_neg d] at ih ⊢
            exact ih
end FI
theorem op_first {μ : Mem} (i : Inv μ) (y : Int32) : Opx (f_H_first 4 y) (f_M_first 27 y) μ := by
  have st := i.1
  have stA : ∀ h k x, ST (si μ h k x) := fun _ _ _ => st
  have stB : ∀ h k x h' k' x', ST (si (si μ h k x) h' k' x') := fun _ _ _ _ _ _ => st
  obtain ⟨B, nb, hnb, g1, g2, g3, g4, g5, g6⟩ := i.2.2.2.2.2.2.2.2.1
  obtain ⟨C, nc, hnc, c1, c2, c3, c4⟩ := i.2.2.2.2.2.2.2.2.2.1
  rcases ix (x := y) (n := nc) (by omega) with hy | ⟨c, hc, rfl⟩
  · have m1 : f_M_isCall 27 y (si μ 26 1 (gi μ 26 1 + 1)) = some (.inl 0, si μ 26 1 (gi μ 26 1 + 1)) := MisCall_f (stA _ _ _) c1 hy
    exact Opx.ref (c := -1) i 1 (by decide) (by simp only [f_H_first, rf_1, HcallAt_f st c2 hy, e_nm, e_bI, e_bR, e_bV, e_gI4, e_pI4, e_cV4, e_gR4_0, e_gR4_1, e_gR4_2, e_gR4_3, e_gR4_4, e_gR4_5, e_gR4_6, e_gR4_7, e_gR4_8, e_gR4_9, e_gR4_10, e_gR4_11, e_aI5, e_aS5, e_aI6, e_aS6, e_gI7, e_pI7, e_cV7, e_gR7, e_gI8, e_pI8, e_cV8, e_gR8, e_gI9, e_pI9, e_cV9, e_gR9, e_gI10, e_pI10, e_cV10, e_gR10, e_gI11, e_pI11, e_cV11, e_gR11_0, e_aI12, e_aS12, e_gI13, e_pI13, e_cV13, e_gR13_0, e_aI14, e_aS14, e_gI15, e_pI15, e_cV15, e_gI16, e_pI16, e_cV16, e_gR16_0, e_gR16_3, e_gR16_4, e_gR16_5, e_gR16_6, e_aI17, e_aS17, e_aI18, e_aS18, e_aI19, e_aS19, e_zI20, e_zS20, e_aI21, e_aS21, e_gI22, e_pI22, e_cV22, e_gR22_0, e_gR22_1, e_gR22_3, e_aI23, e_aS23, e_aI24, e_aS24, e_aI25, e_aS25, e_aI26, e_aS26, e_gI27, e_pI27, e_cV27, e_gR27_7, e_gR27_8, e_gR27_9, e_gR27_10, e_gR27_11, e_gR27_12, e_gR27_13, e_gR27_14, e_gR27_15, e_gR27_16, e_gR27_17, e_gR27_18, e_gR27_19, e_gR27_20, e_gR27_21, e_gR27_22, e_gR27_23, e_gR27_24, e_gR27_25, e_gR27_26, e_gR27_27, e_gR27_28, e_gR27_29, e_gR27_30, e_gR27_31, e_gR27_32, e_gR27_33, e_gR27_34, e_gR27_35, e_gR27_36, e_gR27_37, e_aI28, e_aS28, e_aI29, e_aS29, e_aI30, e_aS30, e_aI31, e_aS31, e_aI32, e_aS32, e_aI33, e_aS33, e_aI34, e_aS34, e_aI35, e_aS35, e_aI36, e_aS36, e_aI37, e_aS37, e_aI38, e_aS38, e_aI39, e_aS39, e_aI40, e_aS40, e_aI41, e_aS41, e_aI42, e_aS42, e_aI43, e_aS43, e_aI44, e_aS44, e_aI45, e_aS45, e_aI46, e_aS46, e_aI47, e_aS47, e_aI48, e_aS48, e_aI49, e_aS49, e_aI50, e_aS50, e_aI51, e_aS51, e_aI52, e_aS52, e_aI53, e_aS53, e_aI54, e_aS54, e_aI55, e_aS55, e_aI56, e_aS56, e_aI57, e_aS57, e_aI58, e_aS58, st, stA, stB, inb, and_self, if_true, if_false, i32_00, i32_10, i32_m40, i32_m60]) (by simp only [f_M_first, no_1, m1, e_nm, e_bI, e_bR, e_bV, e_gI4, e_pI4, e_cV4, e_gR4_0, e_gR4_1, e_gR4_2, e_gR4_3, e_gR4_4, e_gR4_5, e_gR4_6, e_gR4_7, e_gR4_8, e_gR4_9, e_gR4_10, e_gR4_11, e_aI5, e_aS5, e_aI6, e_aS6, e_gI7, e_pI7, e_cV7, e_gR7, e_gI8, e_pI8, e_cV8, e_gR8, e_gI9, e_pI9, e_cV9, e_gR9, e_gI10, e_pI10, e_cV10, e_gR10, e_gI11, e_pI11, e_cV11, e_gR11_0, e_aI12, e_aS12, e_gI13, e_pI13, e_cV13, e_gR13_0, e_aI14, e_aS14, e_gI15, e_pI15, e_cV15, e_gI16, e_pI16, e_cV16, e_gR16_0, e_gR16_3, e_gR16_4, e_gR16_5, e_gR16_6, e_aI17, e_aS17, e_aI18, e_aS18, e_aI19, e_aS19, e_zI20, e_zS20, e_aI21, e_aS21, e_gI22, e_pI22, e_cV22, e_gR22_0, e_gR22_1, e_gR22_3, e_aI23, e_aS23, e_aI24, e_aS24, e_aI25, e_aS25, e_aI26, e_aS26, e_gI27, e_pI27, e_cV27, e_gR27_7, e_gR27_8, e_gR27_9, e_gR27_10, e_gR27_11, e_gR27_12, e_gR27_13, e_gR27_14, e_gR27_15, e_gR27_16, e_gR27_17, e_gR27_18, e_gR27_19, e_gR27_20, e_gR27_21, e_gR27_22, e_gR27_23, e_gR27_24, e_gR27_25, e_gR27_26, e_gR27_27, e_gR27_28, e_gR27_29, e_gR27_30, e_gR27_31, e_gR27_32, e_gR27_33, e_gR27_34, e_gR27_35, e_gR27_36, e_gR27_37, e_aI28, e_aS28, e_aI29, e_aS29, e_aI30, e_aS30, e_aI31, e_aS31, e_aI32, e_aS32, e_aI33, e_aS33, e_aI34, e_aS34, e_aI35, e_aS35, e_aI36, e_aS36, e_aI37, e_aS37, e_aI38, e_aS38, e_aI39, e_aS39, e_aI40, e_aS40, e_aI41, e_aS41, e_aI42, e_aS42, e_aI43, e_aS43, e_aI44, e_aS44, e_aI45, e_aS45, e_aI46, e_aS46, e_aI47, e_aS47, e_aI48, e_aS48, e_aI49, e_aS49, e_aI50, e_aS50, e_aI51, e_aS51, e_aI52, e_aS52, e_aI53, e_aS53, e_aI54, e_aS54, e_aI55, e_aS55, e_aI56, e_aS56, e_aI57, e_aS57, e_aI58, e_aS58, st, stA, stB, inb, and_self, if_true, if_false, i32_00, i32_10, i32_m40, i32_m60])
  have cc := c3 c hc
  have c59 := cc.1
  have hC : ¬ C c = 0 := by omega
  refine Opx.rd (fsb (fun b => rea μ b c) nb).1 i ?_ ?_
  · unfold f_H_first
    rw [e_cV4 st, HcallAt_t st c2 (by omega) hc cc.2.1, e_bR, if_neg hC]
    exact H_first_loop st i.2.1 i.2.2.1 i.2.2.2.2.2.1 i.2.2.2.1 hnb g2 g3 cc 120000 0 (by omega) (by omega)
  · unfold f_M_first
    rw [e_cV27 st, MisCall_t st c1 (by omega) hc, e_bI, if_neg (by decide)]
    exact M_first_loop st i.2.1 hnb g1 g3 cc (by omega) 120000 0 (by omega) (by omega)
