/-! the start: the memory behind both constructors; fixed shapes and references -/
def mz : Mem := (0, fun _ => (0, 0), fun _ _ => 0, fun _ _ => 0)
def pay (x : Option (LV × Mem)) : Mem := match x with
  | some q => q.2
  | none => mz
def muH : Mem := pay (f_H_init 4 (nw mz (12, 0)))
def muI : Mem := pay (f_M_init 27 (nw muH (13, 0)))
theorem muH_ok : (f_H_init 4 (nw mz (12, 0))).isSome = true := by decide +kernel
theorem muH_n : muH.1 = 23 := by decide +kernel
theorem muI_ok : (f_M_init 27 (nw muH (13, 0))).isSome = true := by decide +kernel
theorem muI_n : muI.1 = 55 := by decide +kernel
def SHf (h : Nat) : Nat × Nat := match h with
  | 4 => (12, 0)
  | 5 => (0, 6)
  | 6 => (0, 6)
  | 7 => (14, 0)
  | 8 => (14, 0)
  | 9 => (14, 0)
  | 10 => (14, 0)
  | 11 => (11, 0)
  | 12 => (0, 25)
  | 13 => (5, 0)
  | 14 => (0, 1323)
  | 15 => (8, 0)
  | 16 => (6, 0)
  | 17 => (0, 6)
  | 18 => (0, 6)
  | 19 => (0, 6)
  | 20 => (1, 6)
  | 21 => (0, 6)
  | 22 => (10, 0)
  | 23 => (0, 12)
  | 24 => (0, 20)
  | 25 => (0, 12)
  | 26 => (0, 7)
  | 27 => (13, 0)
  | 28 => (0, 6)
  | 29 => (0, 6)
  | 30 => (0, 40)
  | 31 => (0, 40)
  | 32 => (0, 40)
  | 33 => (0, 40)
  | 34 => (0, 320)
  | 35 => (0, 320)
  | 36 => (0, 25)
  | 37 => (0, 8)
  | 38 => (0, 8)
  | 39 => (0, 8)
  | 40 => (0, 40)
  | 41 => (0, 20)
  | 42 => (0, 20)
  | 43 => (0, 20)
  | 44 => (0, 40)
  | 45 => (0, 40)
  | 46 => (0, 40)
  | 47 => (0, 40)
  | 48 => (0, 40)
  | 49 => (0, 12)
  | 50 => (0, 12)
  | 51 => (0, 20)
  | 52 => (0, 7)
  | 53 => (0, 1323)
  | 54 => (0, 1323)
  | 55 => (0, 6)
  | 56 => (0, 6)
  | 57 => (0, 6)
  | 58 => (0, 6)
  | _ => (999, 0)
def GRf (h k : Nat) : Nat := match h, k with
  | 4, 0 => 5
  | 4, 1 => 6
  | 4, 2 => 7
  | 4, 3 => 8
  | 4, 4 => 9
  | 4, 5 => 10
  | 4, 6 => 11
  | 4, 7 => 13
  | 4, 8 => 15
  | 4, 9 => 16
  | 4, 10 => 22
  | 4, 11 => 26
  | 11, 0 => 12
  | 13, 0 => 14
  | 16, 0 => 17
  | 16, 3 => 18
  | 16, 4 => 19
  | 16, 5 => 20
  | 16, 6 => 21
  | 22, 0 => 23
  | 22, 1 => 24
  | 22, 3 => 25
  | 27, 7 => 28
  | 27, 8 => 29
  | 27, 9 => 30
  | 27, 10 => 31
  | 27, 11 => 32
  | 27, 12 => 33
  | 27, 13 => 34
  | 27, 14 => 35
  | 27, 15 => 36
  | 27, 16 => 37
  | 27, 17 => 38
  | 27, 18 => 39
  | 27, 19 => 40
  | 27, 20 => 41
  | 27, 21 => 42
  | 27, 22 => 43
  | 27, 23 => 44
  | 27, 24 => 45
  | 27, 25 => 46
  | 27, 26 => 47
  | 27, 27 => 48
  | 27, 28 => 49
  | 27, 29 => 50
  | 27, 30 => 51
  | 27, 31 => 52
  | 27, 32 => 53
  | 27, 33 => 54
  | 27, 34 => 55
  | 27, 35 => 56
  | 27, 36 => 57
  | 27, 37 => 58
  | _, _ => 0
def GRl : List (Nat × Nat) := [(4, 0), (4, 1), (4, 2), (4, 3), (4, 4), (4, 5), (4, 6), (4, 7), (4, 8), (4, 9), (4, 10), (4, 11), (11, 0), (13, 0), (16, 0), (16, 3), (16, 4), (16, 5), (16, 6), (22, 0), (22, 1), (22, 3), (27, 7), (27, 8), (27, 9), (27, 10), (27, 11), (27, 12), (27, 13), (27, 14), (27, 15), (27, 16), (27, 17), (27, 18), (27, 19), (27, 20), (27, 21), (27, 22), (27, 23), (27, 24), (27, 25), (27, 26), (27, 27), (27, 28), (27, 29), (27, 30), (27, 31), (27, 32), (27, 33), (27, 34), (27, 35), (27, 36), (27, 37)]
theorem muI_sh : ∀ h, h < 59 → 4 ≤ h → shp muI h = SHf h := by decide +kernel
theorem muI_gr : ∀ q ∈ GRl, gr muI q.1 q.2 = GRf q.1 q.2 := by decide +kernel
/-- the fixed cells -/
def ST (μ : Mem) : Prop := 55 ≤ μ.1 ∧ (∀ h, h < 59 → 4 ≤ h → shp μ h = SHf h) ∧ (∀ q ∈ GRl, gr μ q.1 q.2 = GRf q.1 q.2)
theorem ST_si (μ : Mem) (h k : Nat) (x : Int32) : ST (si μ h k x) = ST μ := rfl
theorem muI_ST : ST muI := ⟨by rw [muI_n]; exact Nat.le_refl _, muI_sh, muI_gr⟩
theorem st_h4 {μ : Mem} (s : ST μ) : shp μ 4 = (12, 0) := s.2.1 4 (by decide) (by decide)
theorem st_h5 {μ : Mem} (s : ST μ) : shp μ 5 = (0, 6) := s.2.1 5 (by decide) (by decide)
theorem st_h6 {μ : Mem} (s : ST μ) : shp μ 6 = (0, 6) := s.2.1 6 (by decide) (by decide)
theorem st_h7 {μ : Mem} (s : ST μ) : shp μ 7 = (14, 0) := s.2.1 7 (by decide) (by decide)
theorem st_h8 {μ : Mem} (s : ST μ) : shp μ 8 = (14, 0) := s.2.1 8 (by decide) (by decide)
theorem st_h9 {μ : Mem} (s : ST μ) : shp μ 9 = (14, 0) := s.2.1 9 (by decide) (by decide)
theorem st_h10 {μ : Mem} (s : ST μ) : shp μ 10 = (14, 0) := s.2.1 10 (by decide) (by decide)
theorem st_h11 {μ : Mem} (s : ST μ) : shp μ 11 = (11, 0) := s.2.1 11 (by decide) (by decide)
theorem st_h12 {μ : Mem} (s : ST μ) : shp μ 12 = (0, 25) := s.2.1 12 (by decide) (by decide)
theorem st_h13 {μ : Mem} (s : ST μ) : shp μ 13 = (5, 0) := s.2.1 13 (by decide) (by decide)
theorem st_h14 {μ : Mem} (s : ST μ) : shp μ 14 = (0, 1323) := s.2.1 14 (by decide) (by decide)
theorem st_h15 {μ : Mem} (s : ST μ) : shp μ 15 = (8, 0) := s.2.1 15 (by decide) (by decide)
theorem st_h16 {μ : Mem} (s : ST μ) : shp μ 16 = (6, 0) := s.2.1 16 (by decide) (by decide)
theorem st_h17 {μ : Mem} (s : ST μ) : shp μ 17 = (0, 6) := s.2.1 17 (by decide) (by decide)
theorem st_h18 {μ : Mem} (s : ST μ) : shp μ 18 = (0, 6) := s.2.1 18 (by decide) (by decide)
theorem st_h19 {μ : Mem} (s : ST μ) : shp μ 19 = (0, 6) := s.2.1 19 (by decide) (by decide)
theorem st_h20 {μ : Mem} (s : ST μ) : shp μ 20 = (1, 6) := s.2.1 20 (by decide) (by decide)
theorem st_h21 {μ : Mem} (s : ST μ) : shp μ 21 = (0, 6) := s.2.1 21 (by decide) (by decide)
theorem st_h22 {μ : Mem} (s : ST μ) : shp μ 22 = (10, 0) := s.2.1 22 (by decide) (by decide)
theorem st_h23 {μ : Mem} (s : ST μ) : shp μ 23 = (0, 12) := s.2.1 23 (by decide) (by decide)
theorem st_h24 {μ : Mem} (s : ST μ) : shp μ 24 = (0, 20) := s.2.1 24 (by decide) (by decide)
theorem st_h25 {μ : Mem} (s : ST μ) : shp μ 25 = (0, 12) := s.2.1 25 (by decide) (by decide)
theorem st_h26 {μ : Mem} (s : ST μ) : shp μ 26 = (0, 7) := s.2.1 26 (by decide) (by decide)
theorem st_h27 {μ : Mem} (s : ST μ) : shp μ 27 = (13, 0) := s.2.1 27 (by decide) (by decide)
theorem st_h28 {μ : Mem} (s : ST μ) : shp μ 28 = (0, 6) := s.2.1 28 (by decide) (by decide)
theorem st_h29 {μ : Mem} (s : ST μ) : shp μ 29 = (0, 6) := s.2.1 29 (by decide) (by decide)
theorem st_h30 {μ : Mem} (s : ST μ) : shp μ 30 = (0, 40) := s.2.1 30 (by decide) (by decide)
theorem st_h31 {μ : Mem} (s : ST μ) : shp μ 31 = (0, 40) := s.2.1 31 (by decide) (by decide)
theorem st_h32 {μ : Mem} (s : ST μ) : shp μ 32 = (0, 40) := s.2.1 32 (by decide) (by decide)
theorem st_h33 {μ : Mem} (s : ST μ) : shp μ 33 = (0, 40) := s.2.1 33 (by decide) (by decide)
theorem st_h34 {μ : Mem} (s : ST μ) : shp μ 34 = (0, 320) := s.2.1 34 (by decide) (by decide)
theorem st_h35 {μ : Mem} (s : ST μ) : shp μ 35 = (0, 320) := s.2.1 35 (by decide) (by decide)
theorem st_h36 {μ : Mem} (s : ST μ) : shp μ 36 = (0, 25) := s.2.1 36 (by decide) (by decide)
theorem st_h37 {μ : Mem} (s : ST μ) : shp μ 37 = (0, 8) := s.2.1 37 (by decide) (by decide)
theorem st_h38 {μ : Mem} (s : ST μ) : shp μ 38 = (0, 8) := s.2.1 38 (by decide) (by decide)
theorem st_h39 {μ : Mem} (s : ST μ) : shp μ 39 = (0, 8) := s.2.1 39 (by decide) (by decide)
theorem st_h40 {μ : Mem} (s : ST μ) : shp μ 40 = (0, 40) := s.2.1 40 (by decide) (by decide)
theorem st_h41 {μ : Mem} (s : ST μ) : shp μ 41 = (0, 20) := s.2.1 41 (by decide) (by decide)
theorem st_h42 {μ : Mem} (s : ST μ) : shp μ 42 = (0, 20) := s.2.1 42 (by decide) (by decide)
theorem st_h43 {μ : Mem} (s : ST μ) : shp μ 43 = (0, 20) := s.2.1 43 (by decide) (by decide)
theorem st_h44 {μ : Mem} (s : ST μ) : shp μ 44 = (0, 40) := s.2.1 44 (by decide) (by decide)
theorem st_h45 {μ : Mem} (s : ST μ) : shp μ 45 = (0, 40) := s.2.1 45 (by decide) (by decide)
theorem st_h46 {μ : Mem} (s : ST μ) : shp μ 46 = (0, 40) := s.2.1 46 (by decide) (by decide)
theorem st_h47 {μ : Mem} (s : ST μ) : shp μ 47 = (0, 40) := s.2.1 47 (by decide) (by decide)
theorem st_h48 {μ : Mem} (s : ST μ) : shp μ 48 = (0, 40) := s.2.1 48 (by decide) (by decide)
theorem st_h49 {μ : Mem} (s : ST μ) : shp μ 49 = (0, 12) := s.2.1 49 (by decide) (by decide)
theorem st_h50 {μ : Mem} (s : ST μ) : shp μ 50 = (0, 12) := s.2.1 50 (by decide) (by decide)
theorem st_h51 {μ : Mem} (s : ST μ) : shp μ 51 = (0, 20) := s.2.1 51 (by decide) (by decide)
theorem st_h52 {μ : Mem} (s : ST μ) : shp μ 52 = (0, 7) := s.2.1 52 (by decide) (by decide)
theorem st_h53 {μ : Mem} (s : ST μ) : shp μ 53 = (0, 1323) := s.2.1 53 (by decide) (by decide)
theorem st_h54 {μ : Mem} (s : ST μ) : shp μ 54 = (0, 1323) := s.2.1 54 (by decide) (by decide)
theorem st_h55 {μ : Mem} (s : ST μ) : shp μ 55 = (0, 6) := s.2.1 55 (by decide) (by decide)
theorem st_h56 {μ : Mem} (s : ST μ) : shp μ 56 = (0, 6) := s.2.1 56 (by decide) (by decide)
theorem st_h57 {μ : Mem} (s : ST μ) : shp μ 57 = (0, 6) := s.2.1 57 (by decide) (by decide)
theorem st_h58 {μ : Mem} (s : ST μ) : shp μ 58 = (0, 6) := s.2.1 58 (by decide) (by decide)
theorem st_r4_0 {μ : Mem} (s : ST μ) : gr μ 4 0 = 5 := s.2.2 (4, 0) (by decide +kernel)
theorem st_r4_1 {μ : Mem} (s : ST μ) : gr μ 4 1 = 6 := s.2.2 (4, 1) (by decide +kernel)
theorem st_r4_2 {μ : Mem} (s : ST μ) : gr μ 4 2 = 7 := s.2.2 (4, 2) (by decide +kernel)
theorem st_r4_3 {μ : Mem} (s : ST μ) : gr μ 4 3 = 8 := s.2.2 (4, 3) (by decide +kernel)
theorem st_r4_4 {μ : Mem} (s : ST μ) : gr μ 4 4 = 9 := s.2.2 (4, 4) (by decide +kernel)
theorem st_r4_5 {μ : Mem} (s : ST μ) : gr μ 4 5 = 10 := s.2.2 (4, 5) (by decide +kernel)
theorem st_r4_6 {μ : Mem} (s : ST μ) : gr μ 4 6 = 11 := s.2.2 (4, 6) (by decide +kernel)
theorem st_r4_7 {μ : Mem} (s : ST μ) : gr μ 4 7 = 13 := s.2.2 (4, 7) (by decide +kernel)
theorem st_r4_8 {μ : Mem} (s : ST μ) : gr μ 4 8 = 15 := s.2.2 (4, 8) (by decide +kernel)
theorem st_r4_9 {μ : Mem} (s : ST μ) : gr μ 4 9 = 16 := s.2.2 (4, 9) (by decide +kernel)
theorem st_r4_10 {μ : Mem} (s : ST μ) : gr μ 4 10 = 22 := s.2.2 (4, 10) (by decide +kernel)
theorem st_r4_11 {μ : Mem} (s : ST μ) : gr μ 4 11 = 26 := s.2.2 (4, 11) (by decide +kernel)
theorem st_r11_0 {μ : Mem} (s : ST μ) : gr μ 11 0 = 12 := s.2.2 (11, 0) (by decide +kernel)
theorem st_r13_0 {μ : Mem} (s : ST μ) : gr μ 13 0 = 14 := s.2.2 (13, 0) (by decide +kernel)
theorem st_r16_0 {μ : Mem} (s : ST μ) : gr μ 16 0 = 17 := s.2.2 (16, 0) (by decide +kernel)
theorem st_r16_3 {μ : Mem} (s : ST μ) : gr μ 16 3 = 18 := s.2.2 (16, 3) (by decide +kernel)
theorem st_r16_4 {μ : Mem} (s : ST μ) : gr μ 16 4 = 19 := s.2.2 (16, 4) (by decide +kernel)
theorem st_r16_5 {μ : Mem} (s : ST μ) : gr μ 16 5 = 20 := s.2.2 (16, 5) (by decide +kernel)
theorem st_r16_6 {μ : Mem} (s : ST μ) : gr μ 16 6 = 21 := s.2.2 (16, 6) (by decide +kernel)
theorem st_r22_0 {μ : Mem} (s : ST μ) : gr μ 22 0 = 23 := s.2.2 (22, 0) (by decide +kernel)
theorem st_r22_1 {μ : Mem} (s : ST μ) : gr μ 22 1 = 24 := s.2.2 (22, 1) (by decide +kernel)
theorem st_r22_3 {μ : Mem} (s : ST μ) : gr μ 22 3 = 25 := s.2.2 (22, 3) (by decide +kernel)
theorem st_r27_7 {μ : Mem} (s : ST μ) : gr μ 27 7 = 28 := s.2.2 (27, 7) (by decide +kernel)
theorem st_r27_8 {μ : Mem} (s : ST μ) : gr μ 27 8 = 29 := s.2.2 (27, 8) (by decide +kernel)
theorem st_r27_9 {μ : Mem} (s : ST μ) : gr μ 27 9 = 30 := s.2.2 (27, 9) (by decide +kernel)
theorem st_r27_10 {μ : Mem} (s : ST μ) : gr μ 27 10 = 31 := s.2.2 (27, 10) (by decide +kernel)
theorem st_r27_11 {μ : Mem} (s : ST μ) : gr μ 27 11 = 32 := s.2.2 (27, 11) (by decide +kernel)
theorem st_r27_12 {μ : Mem} (s : ST μ) : gr μ 27 12 = 33 := s.2.2 (27, 12) (by decide +kernel)
theorem st_r27_13 {μ : Mem} (s : ST μ) : gr μ 27 13 = 34 := s.2.2 (27, 13) (by decide +kernel)
theorem st_r27_14 {μ : Mem} (s : ST μ) : gr μ 27 14 = 35 := s.2.2 (27, 14) (by decide +kernel)
theorem st_r27_15 {μ : Mem} (s : ST μ) : gr μ 27 15 = 36 := s.2.2 (27, 15) (by decide +kernel)
theorem st_r27_16 {μ : Mem} (s : ST μ) : gr μ 27 16 = 37 := s.2.2 (27, 16) (by decide +kernel)
theorem st_r27_17 {μ : Mem} (s : ST μ) : gr μ 27 17 = 38 := s.2.2 (27, 17) (by decide +kernel)
theorem st_r27_18 {μ : Mem} (s : ST μ) : gr μ 27 18 = 39 := s.2.2 (27, 18) (by decide +kernel)
theorem st_r27_19 {μ : Mem} (s : ST μ) : gr μ 27 19 = 40 := s.2.2 (27, 19) (by decide +kernel)
theorem st_r27_20 {μ : Mem} (s : ST μ) : gr μ 27 20 = 41 := s.2.2 (27, 20) (by decide +kernel)
theorem st_r27_21 {μ : Mem} (s : ST μ) : gr μ 27 21 = 42 := s.2.2 (27, 21) (by decide +kernel)
theorem st_r27_22 {μ : Mem} (s : ST μ) : gr μ 27 22 = 43 := s.2.2 (27, 22) (by decide +kernel)
theorem st_r27_23 {μ : Mem} (s : ST μ) : gr μ 27 23 = 44 := s.2.2 (27, 23) (by decide +kernel)
theorem st_r27_24 {μ : Mem} (s : ST μ) : gr μ 27 24 = 45 := s.2.2 (27, 24) (by decide +kernel)
theorem st_r27_25 {μ : Mem} (s : ST μ) : gr μ 27 25 = 46 := s.2.2 (27, 25) (by decide +kernel)
theorem st_r27_26 {μ : Mem} (s : ST μ) : gr μ 27 26 = 47 := s.2.2 (27, 26) (by decide +kernel)
theorem st_r27_27 {μ : Mem} (s : ST μ) : gr μ 27 27 = 48 := s.2.2 (27, 27) (by decide +kernel)
theorem st_r27_28 {μ : Mem} (s : ST μ) : gr μ 27 28 = 49 := s.2.2 (27, 28) (by decide +kernel)
theorem st_r27_29 {μ : Mem} (s : ST μ) : gr μ 27 29 = 50 := s.2.2 (27, 29) (by decide +kernel)
theorem st_r27_30 {μ : Mem} (s : ST μ) : gr μ 27 30 = 51 := s.2.2 (27, 30) (by decide +kernel)
theorem st_r27_31 {μ : Mem} (s : ST μ) : gr μ 27 31 = 52 := s.2.2 (27, 31) (by decide +kernel)
theorem st_r27_32 {μ : Mem} (s : ST μ) : gr μ 27 32 = 53 := s.2.2 (27, 32) (by decide +kernel)
theorem st_r27_33 {μ : Mem} (s : ST μ) : gr μ 27 33 = 54 := s.2.2 (27, 33) (by decide +kernel)
theorem st_r27_34 {μ : Mem} (s : ST μ) : gr μ 27 34 = 55 := s.2.2 (27, 34) (by decide +kernel)
theorem st_r27_35 {μ : Mem} (s : ST μ) : gr μ 27 35 = 56 := s.2.2 (27, 35) (by decide +kernel)
theorem st_r27_36 {μ : Mem} (s : ST μ) : gr μ 27 36 = 57 := s.2.2 (27, 36) (by decide +kernel)
theorem st_r27_37 {μ : Mem} (s : ST μ) : gr μ 27 37 = 58 := s.2.2 (27, 37) (by decide +kernel)
theorem e_nm (x : Int32) (K : Int32 → Option (LV × Mem)) : nm x K = K x := rfl
theorem e_bI (v : Int32) (μ : Mem) (G : Int32 → Mem → Option (LV × Mem)) : bI (some (.inl v, μ)) G = G v μ := rfl
theorem e_bR (v : Nat) (μ : Mem) (G : Nat → Mem → Option (LV × Mem)) : bR (some (.inr v, μ)) G = G v μ := rfl
theorem e_bV (v : LV) (μ : Mem) (G : Mem → Option (LV × Mem)) : bV (some (v, μ)) G = G μ := rfl
theorem e_gI4 {μ : Mem} (s : ST μ) (k : Nat) (K : Int32 → Option (LV × Mem)) : gI 9 4 k μ K = K (gi μ 4 k) := if_pos (st_h4 s)
theorem e_pI4 {μ : Mem} (s : ST μ) (k : Nat) (x : Int32) (K : Mem → Option (LV × Mem)) : pI 9 4 k x μ K = K (si μ 4 k x) := if_pos (st_h4 s)
theorem e_cV4 {μ : Mem} (s : ST μ) (X : Option (LV × Mem)) : cV 9 4 μ X = X := if_pos (st_h4 s)
theorem e_gR4_0 {μ : Mem} (s : ST μ) (K : Nat → Option (LV × Mem)) : gR 9 4 0 μ K = K 5 := (if_pos (st_h4 s)).trans (by rw [st_r4_0 s])
theorem e_gR4_1 {μ : Mem} (s : ST μ) (K : Nat → Option (LV × Mem)) : gR 9 4 1 μ K = K 6 := (if_pos (st_h4 s)).trans (by rw [st_r4_1 s])
theorem e_gR4_2 {μ : Mem} (s : ST μ) (K : Nat → Option (LV × Mem)) : gR 9 4 2 μ K = K 7 := (if_pos (st_h4 s)).trans (by rw [st_r4_2 s])
theorem e_gR4_3 {μ : Mem} (s : ST μ) (K : Nat → Option (LV × Mem)) : gR 9 4 3 μ K = K 8 := (if_pos (st_h4 s)).trans (by rw [st_r4_3 s])
theorem e_gR4_4 {μ : Mem} (s : ST μ) (K : Nat → Option (LV × Mem)) : gR 9 4 4 μ K = K 9 := (if_pos (st_h4 s)).trans (by rw [st_r4_4 s])
theorem e_gR4_5 {μ : Mem} (s : ST μ) (K : Nat → Option (LV × Mem)) : gR 9 4 5 μ K = K 10 := (if_pos (st_h4 s)).trans (by rw [st_r4_5 s])
theorem e_gR4_6 {μ : Mem} (s : ST μ) (K : Nat → Option (LV × Mem)) : gR 9 4 6 μ K = K 11 := (if_pos (st_h4 s)).trans (by rw [st_r4_6 s])
theorem e_gR4_7 {μ : Mem} (s : ST μ) (K : Nat → Option (LV × Mem)) : gR 9 4 7 μ K = K 13 := (if_pos (st_h4 s)).trans (by rw [st_r4_7 s])
theorem e_gR4_8 {μ : Mem} (s : ST μ) (K : Nat → Option (LV × Mem)) : gR 9 4 8 μ K = K 15 := (if_pos (st_h4 s)).trans (by rw [st_r4_8 s])
theorem e_gR4_9 {μ : Mem} (s : ST μ) (K : Nat → Option (LV × Mem)) : gR 9 4 9 μ K = K 16 := (if_pos (st_h4 s)).trans (by rw [st_r4_9 s])
theorem e_gR4_10 {μ : Mem} (s : ST μ) (K : Nat → Option (LV × Mem)) : gR 9 4 10 μ K = K 22 := (if_pos (st_h4 s)).trans (by rw [st_r4_10 s])
theorem e_gR4_11 {μ : Mem} (s : ST μ) (K : Nat → Option (LV × Mem)) : gR 9 4 11 μ K = K 26 := (if_pos (st_h4 s)).trans (by rw [st_r4_11 s])
theorem e_aI5 {μ : Mem} (s : ST μ) {i : Int32} (hi : inb i 6) (K : Int32 → Option (LV × Mem)) : aI 5 i μ K = K (gi μ 5 i.toNatClampNeg) := by unfold aI; rw [st_h5 s]; exact if_pos ⟨rfl, hi⟩
theorem e_aS5 {μ : Mem} (s : ST μ) {i : Int32} (hi : inb i 6) (x : Int32) (K : Mem → Option (LV × Mem)) : aS 5 i x μ K = K (si μ 5 i.toNatClampNeg x) := by unfold aS; rw [st_h5 s]; exact if_pos ⟨rfl, hi⟩
theorem e_aI6 {μ : Mem} (s : ST μ) {i : Int32} (hi : inb i 6) (K : Int32 → Option (LV × Mem)) : aI 6 i μ K = K (gi μ 6 i.toNatClampNeg) := by unfold aI; rw [st_h6 s]; exact if_pos ⟨rfl, hi⟩
theorem e_aS6 {μ : Mem} (s : ST μ) {i : Int32} (hi : inb i 6) (x : Int32) (K : Mem → Option (LV × Mem)) : aS 6 i x μ K = K (si μ 6 i.toNatClampNeg x) := by unfold aS; rw [st_h6 s]; exact if_pos ⟨rfl, hi⟩
theorem e_gI7 {μ : Mem} (s : ST μ) (k : Nat) (K : Int32 → Option (LV × Mem)) : gI 11 7 k μ K = K (gi μ 7 k) := if_pos (st_h7 s)
theorem e_pI7 {μ : Mem} (s : ST μ) (k : Nat) (x : Int32) (K : Mem → Option (LV × Mem)) : pI 11 7 k x μ K = K (si μ 7 k x) := if_pos (st_h7 s)
theorem e_cV7 {μ : Mem} (s : ST μ) (X : Option (LV × Mem)) : cV 11 7 μ X = X := if_pos (st_h7 s)
theorem e_gR7 {μ : Mem} (s : ST μ) (k : Nat) (K : Nat → Option (LV × Mem)) : gR 11 7 k μ K = K (gr μ 7 k) := if_pos (st_h7 s)
theorem e_gI8 {μ : Mem} (s : ST μ) (k : Nat) (K : Int32 → Option (LV × Mem)) : gI 11 8 k μ K = K (gi μ 8 k) := if_pos (st_h8 s)
theorem e_pI8 {μ : Mem} (s : ST μ) (k : Nat) (x : Int32) (K : Mem → Option (LV × Mem)) : pI 11 8 k x μ K = K (si μ 8 k x) := if_pos (st_h8 s)
theorem e_cV8 {μ : Mem} (s : ST μ) (X : Option (LV × Mem)) : cV 11 8 μ X = X := if_pos (st_h8 s)
theorem e_gR8 {μ : Mem} (s : ST μ) (k : Nat) (K : Nat → Option (LV × Mem)) : gR 11 8 k μ K = K (gr μ 8 k) := if_pos (st_h8 s)
theorem e_gI9 {μ : Mem} (s : ST μ) (k : Nat) (K : Int32 → Option (LV × Mem)) : gI 11 9 k μ K = K (gi μ 9 k) := if_pos (st_h9 s)
theorem e_pI9 {μ : Mem} (s : ST μ) (k : Nat) (x : Int32) (K : Mem → Option (LV × Mem)) : pI 11 9 k x μ K = K (si μ 9 k x) := if_pos (st_h9 s)
theorem e_cV9 {μ : Mem} (s : ST μ) (X : Option (LV × Mem)) : cV 11 9 μ X = X := if_pos (st_h9 s)
theorem e_gR9 {μ : Mem} (s : ST μ) (k : Nat) (K : Nat → Option (LV × Mem)) : gR 11 9 k μ K = K (gr μ 9 k) := if_pos (st_h9 s)
theorem e_gI10 {μ : Mem} (s : ST μ) (k : Nat) (K : Int32 → Option (LV × Mem)) : gI 11 10 k μ K = K (gi μ 10 k) := if_pos (st_h10 s)
theorem e_pI10 {μ : Mem} (s : ST μ) (k : Nat) (x : Int32) (K : Mem → Option (LV × Mem)) : pI 11 10 k x μ K = K (si μ 10 k x) := if_pos (st_h10 s)
theorem e_cV10 {μ : Mem} (s : ST μ) (X : Option (LV × Mem)) : cV 11 10 μ X = X := if_pos (st_h10 s)
theorem e_gR10 {μ : Mem} (s : ST μ) (k : Nat) (K : Nat → Option (LV × Mem)) : gR 11 10 k μ K = K (gr μ 10 k) := if_pos (st_h10 s)
theorem e_gI11 {μ : Mem} (s : ST μ) (k : Nat) (K : Int32 → Option (LV × Mem)) : gI 8 11 k μ K = K (gi μ 11 k) := if_pos (st_h11 s)
theorem e_pI11 {μ : Mem} (s : ST μ) (k : Nat) (x : Int32) (K : Mem → Option (LV × Mem)) : pI 8 11 k x μ K = K (si μ 11 k x) := if_pos (st_h11 s)
theorem e_cV11 {μ : Mem} (s : ST μ) (X : Option (LV × Mem)) : cV 8 11 μ X = X := if_pos (st_h11 s)
theorem e_gR11_0 {μ : Mem} (s : ST μ) (K : Nat → Option (LV × Mem)) : gR 8 11 0 μ K = K 12 := (if_pos (st_h11 s)).trans (by rw [st_r11_0 s])
theorem e_aI12 {μ : Mem} (s : ST μ) {i : Int32} (hi : inb i 25) (K : Int32 → Option (LV × Mem)) : aI 12 i μ K = K (gi μ 12 i.toNatClampNeg) := by unfold aI; rw [st_h12 s]; exact if_pos ⟨rfl, hi⟩
theorem e_aS12 {μ : Mem} (s : ST μ) {i : Int32} (hi : inb i 25) (x : Int32) (K : Mem → Option (LV × Mem)) : aS 12 i x μ K = K (si μ 12 i.toNatClampNeg x) := by unfold aS; rw [st_h12 s]; exact if_pos ⟨rfl, hi⟩
theorem e_gI13 {μ : Mem} (s : ST μ) (k : Nat) (K : Int32 → Option (LV × Mem)) : gI 2 13 k μ K = K (gi μ 13 k) := if_pos (st_h13 s)
theorem e_pI13 {μ : Mem} (s : ST μ) (k : Nat) (x : Int32) (K : Mem → Option (LV × Mem)) : pI 2 13 k x μ K = K (si μ 13 k x) := if_pos (st_h13 s)
theorem e_cV13 {μ : Mem} (s : ST μ) (X : Option (LV × Mem)) : cV 2 13 μ X = X := if_pos (st_h13 s)
theorem e_gR13_0 {μ : Mem} (s : ST μ) (K : Nat → Option (LV × Mem)) : gR 2 13 0 μ K = K 14 := (if_pos (st_h13 s)).trans (by rw [st_r13_0 s])
theorem e_aI14 {μ : Mem} (s : ST μ) {i : Int32} (hi : inb i 1323) (K : Int32 → Option (LV × Mem)) : aI 14 i μ K = K (gi μ 14 i.toNatClampNeg) := by unfold aI; rw [st_h14 s]; exact if_pos ⟨rfl, hi⟩
theorem e_aS14 {μ : Mem} (s : ST μ) {i : Int32} (hi : inb i 1323) (x : Int32) (K : Mem → Option (LV × Mem)) : aS 14 i x μ K = K (si μ 14 i.toNatClampNeg x) := by unfold aS; rw [st_h14 s]; exact if_pos ⟨rfl, hi⟩
theorem e_gI15 {μ : Mem} (s : ST μ) (k : Nat) (K : Int32 → Option (LV × Mem)) : gI 5 15 k μ K = K (gi μ 15 k) := if_pos (st_h15 s)
theorem e_pI15 {μ : Mem} (s : ST μ) (k : Nat) (x : Int32) (K : Mem → Option (LV × Mem)) : pI 5 15 k x μ K = K (si μ 15 k x) := if_pos (st_h15 s)
theorem e_cV15 {μ : Mem} (s : ST μ) (X : Option (LV × Mem)) : cV 5 15 μ X = X := if_pos (st_h15 s)
theorem e_gI16 {μ : Mem} (s : ST μ) (k : Nat) (K : Int32 → Option (LV × Mem)) : gI 3 16 k μ K = K (gi μ 16 k) := if_pos (st_h16 s)
theorem e_pI16 {μ : Mem} (s : ST μ) (k : Nat) (x : Int32) (K : Mem → Option (LV × Mem)) : pI 3 16 k x μ K = K (si μ 16 k x) := if_pos (st_h16 s)
theorem e_cV16 {μ : Mem} (s : ST μ) (X : Option (LV × Mem)) : cV 3 16 μ X = X := if_pos (st_h16 s)
theorem e_gR16_0 {μ : Mem} (s : ST μ) (K : Nat → Option (LV × Mem)) : gR 3 16 0 μ K = K 17 := (if_pos (st_h16 s)).trans (by rw [st_r16_0 s])
theorem e_gR16_3 {μ : Mem} (s : ST μ) (K : Nat → Option (LV × Mem)) : gR 3 16 3 μ K = K 18 := (if_pos (st_h16 s)).trans (by rw [st_r16_3 s])
theorem e_gR16_4 {μ : Mem} (s : ST μ) (K : Nat → Option (LV × Mem)) : gR 3 16 4 μ K = K 19 := (if_pos (st_h16 s)).trans (by rw [st_r16_4 s])
theorem e_gR16_5 {μ : Mem} (s : ST μ) (K : Nat → Option (LV × Mem)) : gR 3 16 5 μ K = K 20 := (if_pos (st_h16 s)).trans (by rw [st_r16_5 s])
theorem e_gR16_6 {μ : Mem} (s : ST μ) (K : Nat → Option (LV × Mem)) : gR 3 16 6 μ K = K 21 := (if_pos (st_h16 s)).trans (by rw [st_r16_6 s])
theorem e_aI17 {μ : Mem} (s : ST μ) {i : Int32} (hi : inb i 6) (K : Int32 → Option (LV × Mem)) : aI 17 i μ K = K (gi μ 17 i.toNatClampNeg) := by unfold aI; rw [st_h17 s]; exact if_pos ⟨rfl, hi⟩
theorem e_aS17 {μ : Mem} (s : ST μ) {i : Int32} (hi : inb i 6) (x : Int32) (K : Mem → Option (LV × Mem)) : aS 17 i x μ K = K (si μ 17 i.toNatClampNeg x) := by unfold aS; rw [st_h17 s]; exact if_pos ⟨rfl, hi⟩
theorem e_aI18 {μ : Mem} (s : ST μ) {i : Int32} (hi : inb i 6) (K : Int32 → Option (LV × Mem)) : aI 18 i μ K = K (gi μ 18 i.toNatClampNeg) := by unfold aI; rw [st_h18 s]; exact if_pos ⟨rfl, hi⟩
theorem e_aS18 {μ : Mem} (s : ST μ) {i : Int32} (hi : inb i 6) (x : Int32) (K : Mem → Option (LV × Mem)) : aS 18 i x μ K = K (si μ 18 i.toNatClampNeg x) := by unfold aS; rw [st_h18 s]; exact if_pos ⟨rfl, hi⟩
theorem e_aI19 {μ : Mem} (s : ST μ) {i : Int32} (hi : inb i 6) (K : Int32 → Option (LV × Mem)) : aI 19 i μ K = K (gi μ 19 i.toNatClampNeg) := by unfold aI; rw [st_h19 s]; exact if_pos ⟨rfl, hi⟩
theorem e_aS19 {μ : Mem} (s : ST μ) {i : Int32} (hi : inb i 6) (x : Int32) (K : Mem → Option (LV × Mem)) : aS 19 i x μ K = K (si μ 19 i.toNatClampNeg x) := by unfold aS; rw [st_h19 s]; exact if_pos ⟨rfl, hi⟩
theorem e_zI20 {μ : Mem} (s : ST μ) {i : Int32} (hi : inb i 6) (K : Int32 → Option (LV × Mem)) : zI 20 i μ K = K (gi μ 20 i.toNatClampNeg) := by unfold zI; rw [st_h20 s]; exact if_pos ⟨rfl, hi⟩
theorem e_zS20 {μ : Mem} (s : ST μ) {i : Int32} (hi : inb i 6) (x : Int32) (K : Mem → Option (LV × Mem)) : zS 20 i x μ K = K (si μ 20 i.toNatClampNeg (vp_nar .boolean x)) := by unfold zS; rw [st_h20 s]; exact if_pos ⟨rfl, hi⟩
theorem e_aI21 {μ : Mem} (s : ST μ) {i : Int32} (hi : inb i 6) (K : Int32 → Option (LV × Mem)) : aI 21 i μ K = K (gi μ 21 i.toNatClampNeg) := by unfold aI; rw [st_h21 s]; exact if_pos ⟨rfl, hi⟩
theorem e_aS21 {μ : Mem} (s : ST μ) {i : Int32} (hi : inb i 6) (x : Int32) (K : Mem → Option (LV × Mem)) : aS 21 i x μ K = K (si μ 21 i.toNatClampNeg x) := by unfold aS; rw [st_h21 s]; exact if_pos ⟨rfl, hi⟩
theorem e_gI22 {μ : Mem} (s : ST μ) (k : Nat) (K : Int32 → Option (LV × Mem)) : gI 7 22 k μ K = K (gi μ 22 k) := if_pos (st_h22 s)
theorem e_pI22 {μ : Mem} (s : ST μ) (k : Nat) (x : Int32) (K : Mem → Option (LV × Mem)) : pI 7 22 k x μ K = K (si μ 22 k x) := if_pos (st_h22 s)
theorem e_cV22 {μ : Mem} (s : ST μ) (X : Option (LV × Mem)) : cV 7 22 μ X = X := if_pos (st_h22 s)
theorem e_gR22_0 {μ : Mem} (s : ST μ) (K : Nat → Option (LV × Mem)) : gR 7 22 0 μ K = K 23 := (if_pos (st_h22 s)).trans (by rw [st_r22_0 s])
theorem e_gR22_1 {μ : Mem} (s : ST μ) (K : Nat → Option (LV × Mem)) : gR 7 22 1 μ K = K 24 := (if_pos (st_h22 s)).trans (by rw [st_r22_1 s])
theorem e_gR22_3 {μ : Mem} (s : ST μ) (K : Nat → Option (LV × Mem)) : gR 7 22 3 μ K = K 25 := (if_pos (st_h22 s)).trans (by rw [st_r22_3 s])
theorem e_aI23 {μ : Mem} (s : ST μ) {i : Int32} (hi : inb i 12) (K : Int32 → Option (LV × Mem)) : aI 23 i μ K = K (gi μ 23 i.toNatClampNeg) := by unfold aI; rw [st_h23 s]; exact if_pos ⟨rfl, hi⟩
theorem e_aS23 {μ : Mem} (s : ST μ) {i : Int32} (hi : inb i 12) (x : Int32) (K : Mem → Option (LV × Mem)) : aS 23 i x μ K = K (si μ 23 i.toNatClampNeg x) := by unfold aS; rw [st_h23 s]; exact if_pos ⟨rfl, hi⟩
theorem e_aI24 {μ : Mem} (s : ST μ) {i : Int32} (hi : inb i 20) (K : Int32 → Option (LV × Mem)) : aI 24 i μ K = K (gi μ 24 i.toNatClampNeg) := by unfold aI; rw [st_h24 s]; exact if_pos ⟨rfl, hi⟩
theorem e_aS24 {μ : Mem} (s : ST μ) {i : Int32} (hi : inb i 20) (x : Int32) (K : Mem → Option (LV × Mem)) : aS 24 i x μ K = K (si μ 24 i.toNatClampNeg x) := by unfold aS; rw [st_h24 s]; exact if_pos ⟨rfl, hi⟩
theorem e_aI25 {μ : Mem} (s : ST μ) {i : Int32} (hi : inb i 12) (K : Int32 → Option (LV × Mem)) : aI 25 i μ K = K (gi μ 25 i.toNatClampNeg) := by unfold aI; rw [st_h25 s]; exact if_pos ⟨rfl, hi⟩
theorem e_aS25 {μ : Mem} (s : ST μ) {i : Int32} (hi : inb i 12) (x : Int32) (K : Mem → Option (LV × Mem)) : aS 25 i x μ K = K (si μ 25 i.toNatClampNeg x) := by unfold aS; rw [st_h25 s]; exact if_pos ⟨rfl, hi⟩
theorem e_aI26 {μ : Mem} (s : ST μ) {i : Int32} (hi : inb i 7) (K : Int32 → Option (LV × Mem)) : aI 26 i μ K = K (gi μ 26 i.toNatClampNeg) := by unfold aI; rw [st_h26 s]; exact if_pos ⟨rfl, hi⟩
theorem e_aS26 {μ : Mem} (s : ST μ) {i : Int32} (hi : inb i 7) (x : Int32) (K : Mem → Option (LV × Mem)) : aS 26 i x μ K = K (si μ 26 i.toNatClampNeg x) := by unfold aS; rw [st_h26 s]; exact if_pos ⟨rfl, hi⟩
theorem e_gI27 {μ : Mem} (s : ST μ) (k : Nat) (K : Int32 → Option (LV × Mem)) : gI 10 27 k μ K = K (gi μ 27 k) := if_pos (st_h27 s)
theorem e_pI27 {μ : Mem} (s : ST μ) (k : Nat) (x : Int32) (K : Mem → Option (LV × Mem)) : pI 10 27 k x μ K = K (si μ 27 k x) := if_pos (st_h27 s)
theorem e_cV27 {μ : Mem} (s : ST μ) (X : Option (LV × Mem)) : cV 10 27 μ X = X := if_pos (st_h27 s)
theorem e_gR27_7 {μ : Mem} (s : ST μ) (K : Nat → Option (LV × Mem)) : gR 10 27 7 μ K = K 28 := (if_pos (st_h27 s)).trans (by rw [st_r27_7 s])
theorem e_gR27_8 {μ : Mem} (s : ST μ) (K : Nat → Option (LV × Mem)) : gR 10 27 8 μ K = K 29 := (if_pos (st_h27 s)).trans (by rw [st_r27_8 s])
theorem e_gR27_9 {μ : Mem} (s : ST μ) (K : Nat → Option (LV × Mem)) : gR 10 27 9 μ K = K 30 := (if_pos (st_h27 s)).trans (by rw [st_r27_9 s])
theorem e_gR27_10 {μ : Mem} (s : ST μ) (K : Nat → Option (LV × Mem)) : gR 10 27 10 μ K = K 31 := (if_pos (st_h27 s)).trans (by rw [st_r27_10 s])
theorem e_gR27_11 {μ : Mem} (s : ST μ) (K : Nat → Option (LV × Mem)) : gR 10 27 11 μ K = K 32 := (if_pos (st_h27 s)).trans (by rw [st_r27_11 s])
theorem e_gR27_12 {μ : Mem} (s : ST μ) (K : Nat → Option (LV × Mem)) : gR 10 27 12 μ K = K 33 := (if_pos (st_h27 s)).trans (by rw [st_r27_12 s])
theorem e_gR27_13 {μ : Mem} (s : ST μ) (K : Nat → Option (LV × Mem)) : gR 10 27 13 μ K = K 34 := (if_pos (st_h27 s)).trans (by rw [st_r27_13 s])
theorem e_gR27_14 {μ : Mem} (s : ST μ) (K : Nat → Option (LV × Mem)) : gR 10 27 14 μ K = K 35 := (if_pos (st_h27 s)).trans (by rw [st_r27_14 s])
theorem e_gR27_15 {μ : Mem} (s : ST μ) (K : Nat → Option (LV × Mem)) : gR 10 27 15 μ K = K 36 := (if_pos (st_h27 s)).trans (by rw [st_r27_15 s])
theorem e_gR27_16 {μ : Mem} (s : ST μ) (K : Nat → Option (LV × Mem)) : gR 10 27 16 μ K = K 37 := (if_pos (st_h27 s)).trans (by rw [st_r27_16 s])
theorem e_gR27_17 {μ : Mem} (s : ST μ) (K : Nat → Option (LV × Mem)) : gR 10 27 17 μ K = K 38 := (if_pos (st_h27 s)).trans (by rw [st_r27_17 s])
theorem e_gR27_18 {μ : Mem} (s : ST μ) (K : Nat → Option (LV × Mem)) : gR 10 27 18 μ K = K 39 := (if_pos (st_h27 s)).trans (by rw [st_r27_18 s])
theorem e_gR27_19 {μ : Mem} (s : ST μ) (K : Nat → Option (LV × Mem)) : gR 10 27 19 μ K = K 40 := (if_pos (st_h27 s)).trans (by rw [st_r27_19 s])
theorem e_gR27_20 {μ : Mem} (s : ST μ) (K : Nat → Option (LV × Mem)) : gR 10 27 20 μ K = K 41 := (if_pos (st_h27 s)).trans (by rw [st_r27_20 s])
theorem e_gR27_21 {μ : Mem} (s : ST μ) (K : Nat → Option (LV × Mem)) : gR 10 27 21 μ K = K 42 := (if_pos (st_h27 s)).trans (by rw [st_r27_21 s])
theorem e_gR27_22 {μ : Mem} (s : ST μ) (K : Nat → Option (LV × Mem)) : gR 10 27 22 μ K = K 43 := (if_pos (st_h27 s)).trans (by rw [st_r27_22 s])
theorem e_gR27_23 {μ : Mem} (s : ST μ) (K : Nat → Option (LV × Mem)) : gR 10 27 23 μ K = K 44 := (if_pos (st_h27 s)).trans (by rw [st_r27_23 s])
theorem e_gR27_24 {μ : Mem} (s : ST μ) (K : Nat → Option (LV × Mem)) : gR 10 27 24 μ K = K 45 := (if_pos (st_h27 s)).trans (by rw [st_r27_24 s])
theorem e_gR27_25 {μ : Mem} (s : ST μ) (K : Nat → Option (LV × Mem)) : gR 10 27 25 μ K = K 46 := (if_pos (st_h27 s)).trans (by rw [st_r27_25 s])
theorem e_gR27_26 {μ : Mem} (s : ST μ) (K : Nat → Option (LV × Mem)) : gR 10 27 26 μ K = K 47 := (if_pos (st_h27 s)).trans (by rw [st_r27_26 s])
theorem e_gR27_27 {μ : Mem} (s : ST μ) (K : Nat → Option (LV × Mem)) : gR 10 27 27 μ K = K 48 := (if_pos (st_h27 s)).trans (by rw [st_r27_27 s])
theorem e_gR27_28 {μ : Mem} (s : ST μ) (K : Nat → Option (LV × Mem)) : gR 10 27 28 μ K = K 49 := (if_pos (st_h27 s)).trans (by rw [st_r27_28 s])
theorem e_gR27_29 {μ : Mem} (s : ST μ) (K : Nat → Option (LV × Mem)) : gR 10 27 29 μ K = K 50 := (if_pos (st_h27 s)).trans (by rw [st_r27_29 s])
theorem e_gR27_30 {μ : Mem} (s : ST μ) (K : Nat → Option (LV × Mem)) : gR 10 27 30 μ K = K 51 := (if_pos (st_h27 s)).trans (by rw [st_r27_30 s])
theorem e_gR27_31 {μ : Mem} (s : ST μ) (K : Nat → Option (LV × Mem)) : gR 10 27 31 μ K = K 52 := (if_pos (st_h27 s)).trans (by rw [st_r27_31 s])
theorem e_gR27_32 {μ : Mem} (s : ST μ) (K : Nat → Option (LV × Mem)) : gR 10 27 32 μ K = K 53 := (if_pos (st_h27 s)).trans (by rw [st_r27_32 s])
theorem e_gR27_33 {μ : Mem} (s : ST μ) (K : Nat → Option (LV × Mem)) : gR 10 27 33 μ K = K 54 := (if_pos (st_h27 s)).trans (by rw [st_r27_33 s])
theorem e_gR27_34 {μ : Mem} (s : ST μ) (K : Nat → Option (LV × Mem)) : gR 10 27 34 μ K = K 55 := (if_pos (st_h27 s)).trans (by rw [st_r27_34 s])
theorem e_gR27_35 {μ : Mem} (s : ST μ) (K : Nat → Option (LV × Mem)) : gR 10 27 35 μ K = K 56 := (if_pos (st_h27 s)).trans (by rw [st_r27_35 s])
theorem e_gR27_36 {μ : Mem} (s : ST μ) (K : Nat → Option (LV × Mem)) : gR 10 27 36 μ K = K 57 := (if_pos (st_h27 s)).trans (by rw [st_r27_36 s])
theorem e_gR27_37 {μ : Mem} (s : ST μ) (K : Nat → Option (LV × Mem)) : gR 10 27 37 μ K = K 58 := (if_pos (st_h27 s)).trans (by rw [st_r27_37 s])
theorem e_aI28 {μ : Mem} (s : ST μ) {i : Int32} (hi : inb i 6) (K : Int32 → Option (LV × Mem)) : aI 28 i μ K = K (gi μ 28 i.toNatClampNeg) := by unfold aI; rw [st_h28 s]; exact if_pos ⟨rfl, hi⟩
theorem e_aS28 {μ : Mem} (s : ST μ) {i : Int32} (hi : inb i 6) (x : Int32) (K : Mem → Option (LV × Mem)) : aS 28 i x μ K = K (si μ 28 i.toNatClampNeg x) := by unfold aS; rw [st_h28 s]; exact if_pos ⟨rfl, hi⟩
theorem e_aI29 {μ : Mem} (s : ST μ) {i : Int32} (hi : inb i 6) (K : Int32 → Option (LV × Mem)) : aI 29 i μ K = K (gi μ 29 i.toNatClampNeg) := by unfold aI; rw [st_h29 s]; exact if_pos ⟨rfl, hi⟩
theorem e_aS29 {μ : Mem} (s : ST μ) {i : Int32} (hi : inb i 6) (x : Int32) (K : Mem → Option (LV × Mem)) : aS 29 i x μ K = K (si μ 29 i.toNatClampNeg x) := by unfold aS; rw [st_h29 s]; exact if_pos ⟨rfl, hi⟩
theorem e_aI30 {μ : Mem} (s : ST μ) {i : Int32} (hi : inb i 40) (K : Int32 → Option (LV × Mem)) : aI 30 i μ K = K (gi μ 30 i.toNatClampNeg) := by unfold aI; rw [st_h30 s]; exact if_pos ⟨rfl, hi⟩
theorem e_aS30 {μ : Mem} (s : ST μ) {i : Int32} (hi : inb i 40) (x : Int32) (K : Mem → Option (LV × Mem)) : aS 30 i x μ K = K (si μ 30 i.toNatClampNeg x) := by unfold aS; rw [st_h30 s]; exact if_pos ⟨rfl, hi⟩
theorem e_aI31 {μ : Mem} (s : ST μ) {i : Int32} (hi : inb i 40) (K : Int32 → Option (LV × Mem)) : aI 31 i μ K = K (gi μ 31 i.toNatClampNeg) := by unfold aI; rw [st_h31 s]; exact if_pos ⟨rfl, hi⟩
theorem e_aS31 {μ : Mem} (s : ST μ) {i : Int32} (hi : inb i 40) (x : Int32) (K : Mem → Option (LV × Mem)) : aS 31 i x μ K = K (si μ 31 i.toNatClampNeg x) := by unfold aS; rw [st_h31 s]; exact if_pos ⟨rfl, hi⟩
theorem e_aI32 {μ : Mem} (s : ST μ) {i : Int32} (hi : inb i 40) (K : Int32 → Option (LV × Mem)) : aI 32 i μ K = K (gi μ 32 i.toNatClampNeg) := by unfold aI; rw [st_h32 s]; exact if_pos ⟨rfl, hi⟩
theorem e_aS32 {μ : Mem} (s : ST μ) {i : Int32} (hi : inb i 40) (x : Int32) (K : Mem → Option (LV × Mem)) : aS 32 i x μ K = K (si μ 32 i.toNatClampNeg x) := by unfold aS; rw [st_h32 s]; exact if_pos ⟨rfl, hi⟩
theorem e_aI33 {μ : Mem} (s : ST μ) {i : Int32} (hi : inb i 40) (K : Int32 → Option (LV × Mem)) : aI 33 i μ K = K (gi μ 33 i.toNatClampNeg) := by unfold aI; rw [st_h33 s]; exact if_pos ⟨rfl, hi⟩
theorem e_aS33 {μ : Mem} (s : ST μ) {i : Int32} (hi : inb i 40) (x : Int32) (K : Mem → Option (LV × Mem)) : aS 33 i x μ K = K (si μ 33 i.toNatClampNeg x) := by unfold aS; rw [st_h33 s]; exact if_pos ⟨rfl, hi⟩
theorem e_aI34 {μ : Mem} (s : ST μ) {i : Int32} (hi : inb i 320) (K : Int32 → Option (LV × Mem)) : aI 34 i μ K = K (gi μ 34 i.toNatClampNeg) := by unfold aI; rw [st_h34 s]; exact if_pos ⟨rfl, hi⟩
theorem e_aS34 {μ : Mem} (s : ST μ) {i : Int32} (hi : inb i 320) (x : Int32) (K : Mem → Option (LV × Mem)) : aS 34 i x μ K = K (si μ 34 i.toNatClampNeg x) := by unfold aS; rw [st_h34 s]; exact if_pos ⟨rfl, hi⟩
theorem e_aI35 {μ : Mem} (s : ST μ) {i : Int32} (hi : inb i 320) (K : Int32 → Option (LV × Mem)) : aI 35 i μ K = K (gi μ 35 i.toNatClampNeg) := by unfold aI; rw [st_h35 s]; exact if_pos ⟨rfl, hi⟩
theorem e_aS35 {μ : Mem} (s : ST μ) {i : Int32} (hi : inb i 320) (x : Int32) (K : Mem → Option (LV × Mem)) : aS 35 i x μ K = K (si μ 35 i.toNatClampNeg x) := by unfold aS; rw [st_h35 s]; exact if_pos ⟨rfl, hi⟩
theorem e_aI36 {μ : Mem} (s : ST μ) {i : Int32} (hi : inb i 25) (K : Int32 → Option (LV × Mem)) : aI 36 i μ K = K (gi μ 36 i.toNatClampNeg) := by unfold aI; rw [st_h36 s]; exact if_pos ⟨rfl, hi⟩
theorem e_aS36 {μ : Mem} (s : ST μ) {i : Int32} (hi : inb i 25) (x : Int32) (K : Mem → Option (LV × Mem)) : aS 36 i x μ K = K (si μ 36 i.toNatClampNeg x) := by unfold aS; rw [st_h36 s]; exact if_pos ⟨rfl, hi⟩
theorem e_aI37 {μ : Mem} (s : ST μ) {i : Int32} (hi : inb i 8) (K : Int32 → Option (LV × Mem)) : aI 37 i μ K = K (gi μ 37 i.toNatClampNeg) := by unfold aI; rw [st_h37 s]; exact if_pos ⟨rfl, hi⟩
theorem e_aS37 {μ : Mem} (s : ST μ) {i : Int32} (hi : inb i 8) (x : Int32) (K : Mem → Option (LV × Mem)) : aS 37 i x μ K = K (si μ 37 i.toNatClampNeg x) := by unfold aS; rw [st_h37 s]; exact if_pos ⟨rfl, hi⟩
theorem e_aI38 {μ : Mem} (s : ST μ) {i : Int32} (hi : inb i 8) (K : Int32 → Option (LV × Mem)) : aI 38 i μ K = K (gi μ 38 i.toNatClampNeg) := by unfold aI; rw [st_h38 s]; exact if_pos ⟨rfl, hi⟩
theorem e_aS38 {μ : Mem} (s : ST μ) {i : Int32} (hi : inb i 8) (x : Int32) (K : Mem → Option (LV × Mem)) : aS 38 i x μ K = K (si μ 38 i.toNatClampNeg x) := by unfold aS; rw [st_h38 s]; exact if_pos ⟨rfl, hi⟩
theorem e_aI39 {μ : Mem} (s : ST μ) {i : Int32} (hi : inb i 8) (K : Int32 → Option (LV × Mem)) : aI 39 i μ K = K (gi μ 39 i.toNatClampNeg) := by unfold aI; rw [st_h39 s]; exact if_pos ⟨rfl, hi⟩
theorem e_aS39 {μ : Mem} (s : ST μ) {i : Int32} (hi : inb i 8) (x : Int32) (K : Mem → Option (LV × Mem)) : aS 39 i x μ K = K (si μ 39 i.toNatClampNeg x) := by unfold aS; rw [st_h39 s]; exact if_pos ⟨rfl, hi⟩
theorem e_aI40 {μ : Mem} (s : ST μ) {i : Int32} (hi : inb i 40) (K : Int32 → Option (LV × Mem)) : aI 40 i μ K = K (gi μ 40 i.toNatClampNeg) := by unfold aI; rw [st_h40 s]; exact if_pos ⟨rfl, hi⟩
theorem e_aS40 {μ : Mem} (s : ST μ) {i : Int32} (hi : inb i 40) (x : Int32) (K : Mem → Option (LV × Mem)) : aS 40 i x μ K = K (si μ 40 i.toNatClampNeg x) := by unfold aS; rw [st_h40 s]; exact if_pos ⟨rfl, hi⟩
theorem e_aI41 {μ : Mem} (s : ST μ) {i : Int32} (hi : inb i 20) (K : Int32 → Option (LV × Mem)) : aI 41 i μ K = K (gi μ 41 i.toNatClampNeg) := by unfold aI; rw [st_h41 s]; exact if_pos ⟨rfl, hi⟩
theorem e_aS41 {μ : Mem} (s : ST μ) {i : Int32} (hi : inb i 20) (x : Int32) (K : Mem → Option (LV × Mem)) : aS 41 i x μ K = K (si μ 41 i.toNatClampNeg x) := by unfold aS; rw [st_h41 s]; exact if_pos ⟨rfl, hi⟩
theorem e_aI42 {μ : Mem} (s : ST μ) {i : Int32} (hi : inb i 20) (K : Int32 → Option (LV × Mem)) : aI 42 i μ K = K (gi μ 42 i.toNatClampNeg) := by unfold aI; rw [st_h42 s]; exact if_pos ⟨rfl, hi⟩
theorem e_aS42 {μ : Mem} (s : ST μ) {i : Int32} (hi : inb i 20) (x : Int32) (K : Mem → Option (LV × Mem)) : aS 42 i x μ K = K (si μ 42 i.toNatClampNeg x) := by unfold aS; rw [st_h42 s]; exact if_pos ⟨rfl, hi⟩
theorem e_aI43 {μ : Mem} (s : ST μ) {i : Int32} (hi : inb i 20) (K : Int32 → Option (LV × Mem)) : aI 43 i μ K = K (gi μ 43 i.toNatClampNeg) := by unfold aI; rw [st_h43 s]; exact if_pos ⟨rfl, hi⟩
theorem e_aS43 {μ : Mem} (s : ST μ) {i : Int32} (hi : inb i 20) (x : Int32) (K : Mem → Option (LV × Mem)) : aS 43 i x μ K = K (si μ 43 i.toNatClampNeg x) := by unfold aS; rw [st_h43 s]; exact if_pos ⟨rfl, hi⟩
theorem e_aI44 {μ : Mem} (s : ST μ) {i : Int32} (hi : inb i 40) (K : Int32 → Option (LV × Mem)) : aI 44 i μ K = K (gi μ 44 i.toNatClampNeg) := by unfold aI; rw [st_h44 s]; exact if_pos ⟨rfl, hi⟩
theorem e_aS44 {μ : Mem} (s : ST μ) {i : Int32} (hi : inb i 40) (x : Int32) (K : Mem → Option (LV × Mem)) : aS 44 i x μ K = K (si μ 44 i.toNatClampNeg x) := by unfold aS; rw [st_h44 s]; exact if_pos ⟨rfl, hi⟩
theorem e_aI45 {μ : Mem} (s : ST μ) {i : Int32} (hi : inb i 40) (K : Int32 → Option (LV × Mem)) : aI 45 i μ K = K (gi μ 45 i.toNatClampNeg) := by unfold aI; rw [st_h45 s]; exact if_pos ⟨rfl, hi⟩
theorem e_aS45 {μ : Mem} (s : ST μ) {i : Int32} (hi : inb i 40) (x : Int32) (K : Mem → Option (LV × Mem)) : aS 45 i x μ K = K (si μ 45 i.toNatClampNeg x) := by unfold aS; rw [st_h45 s]; exact if_pos ⟨rfl, hi⟩
theorem e_aI46 {μ : Mem} (s : ST μ) {i : Int32} (hi : inb i 40) (K : Int32 → Option (LV × Mem)) : aI 46 i μ K = K (gi μ 46 i.toNatClampNeg) := by unfold aI; rw [st_h46 s]; exact if_pos ⟨rfl, hi⟩
theorem e_aS46 {μ : Mem} (s : ST μ) {i : Int32} (hi : inb i 40) (x : Int32) (K : Mem → Option (LV × Mem)) : aS 46 i x μ K = K (si μ 46 i.toNatClampNeg x) := by unfold aS; rw [st_h46 s]; exact if_pos ⟨rfl, hi⟩
theorem e_aI47 {μ : Mem} (s : ST μ) {i : Int32} (hi : inb i 40) (K : Int32 → Option (LV × Mem)) : aI 47 i μ K = K (gi μ 47 i.toNatClampNeg) := by unfold aI; rw [st_h47 s]; exact if_pos ⟨rfl, hi⟩
theorem e_aS47 {μ : Mem} (s : ST μ) {i : Int32} (hi : inb i 40) (x : Int32) (K : Mem → Option (LV × Mem)) : aS 47 i x μ K = K (si μ 47 i.toNatClampNeg x) := by unfold aS; rw [st_h47 s]; exact if_pos ⟨rfl, hi⟩
theorem e_aI48 {μ : Mem} (s : ST μ) {i : Int32} (hi : inb i 40) (K : Int32 → Option (LV × Mem)) : aI 48 i μ K = K (gi μ 48 i.toNatClampNeg) := by unfold aI; rw [st_h48 s]; exact if_pos ⟨rfl, hi⟩
theorem e_aS48 {μ : Mem} (s : ST μ) {i : Int32} (hi : inb i 40) (x : Int32) (K : Mem → Option (LV × Mem)) : aS 48 i x μ K = K (si μ 48 i.toNatClampNeg x) := by unfold aS; rw [st_h48 s]; exact if_pos ⟨rfl, hi⟩
theorem e_aI49 {μ : Mem} (s : ST μ) {i : Int32} (hi : inb i 12) (K : Int32 → Option (LV × Mem)) : aI 49 i μ K = K (gi μ 49 i.toNatClampNeg) := by unfold aI; rw [st_h49 s]; exact if_pos ⟨rfl, hi⟩
theorem e_aS49 {μ : Mem} (s : ST μ) {i : Int32} (hi : inb i 12) (x : Int32) (K : Mem → Option (LV × Mem)) : aS 49 i x μ K = K (si μ 49 i.toNatClampNeg x) := by unfold aS; rw [st_h49 s]; exact if_pos ⟨rfl, hi⟩
theorem e_aI50 {μ : Mem} (s : ST μ) {i : Int32} (hi : inb i 12) (K : Int32 → Option (LV × Mem)) : aI 50 i μ K = K (gi μ 50 i.toNatClampNeg) := by unfold aI; rw [st_h50 s]; exact if_pos ⟨rfl, hi⟩
theorem e_aS50 {μ : Mem} (s : ST μ) {i : Int32} (hi : inb i 12) (x : Int32) (K : Mem → Option (LV × Mem)) : aS 50 i x μ K = K (si μ 50 i.toNatClampNeg x) := by unfold aS; rw [st_h50 s]; exact if_pos ⟨rfl, hi⟩
theorem e_aI51 {μ : Mem} (s : ST μ) {i : Int32} (hi : inb i 20) (K : Int32 → Option (LV × Mem)) : aI 51 i μ K = K (gi μ 51 i.toNatClampNeg) := by unfold aI; rw [st_h51 s]; exact if_pos ⟨rfl, hi⟩
theorem e_aS51 {μ : Mem} (s : ST μ) {i : Int32} (hi : inb i 20) (x : Int32) (K : Mem → Option (LV × Mem)) : aS 51 i x μ K = K (si μ 51 i.toNatClampNeg x) := by unfold aS; rw [st_h51 s]; exact if_pos ⟨rfl, hi⟩
theorem e_aI52 {μ : Mem} (s : ST μ) {i : Int32} (hi : inb i 7) (K : Int32 → Option (LV × Mem)) : aI 52 i μ K = K (gi μ 52 i.toNatClampNeg) := by unfold aI; rw [st_h52 s]; exact if_pos ⟨rfl, hi⟩
theorem e_aS52 {μ : Mem} (s : ST μ) {i : Int32} (hi : inb i 7) (x : Int32) (K : Mem → Option (LV × Mem)) : aS 52 i x μ K = K (si μ 52 i.toNatClampNeg x) := by unfold aS; rw [st_h52 s]; exact if_pos ⟨rfl, hi⟩
theorem e_aI53 {μ : Mem} (s : ST μ) {i : Int32} (hi : inb i 1323) (K : Int32 → Option (LV × Mem)) : aI 53 i μ K = K (gi μ 53 i.toNatClampNeg) := by unfold aI; rw [st_h53 s]; exact if_pos ⟨rfl, hi⟩
theorem e_aS53 {μ : Mem} (s : ST μ) {i : Int32} (hi : inb i 1323) (x : Int32) (K : Mem → Option (LV × Mem)) : aS 53 i x μ K = K (si μ 53 i.toNatClampNeg x) := by unfold aS; rw [st_h53 s]; exact if_pos ⟨rfl, hi⟩
theorem e_aI54 {μ : Mem} (s : ST μ) {i : Int32} (hi : inb i 1323) (K : Int32 → Option (LV × Mem)) : aI 54 i μ K = K (gi μ 54 i.toNatClampNeg) := by unfold aI; rw [st_h54 s]; exact if_pos ⟨rfl, hi⟩
theorem e_aS54 {μ : Mem} (s : ST μ) {i : Int32} (hi : inb i 1323) (x : Int32) (K : Mem → Option (LV × Mem)) : aS 54 i x μ K = K (si μ 54 i.toNatClampNeg x) := by unfold aS; rw [st_h54 s]; exact if_pos ⟨rfl, hi⟩
theorem e_aI55 {μ : Mem} (s : ST μ) {i : Int32} (hi : inb i 6) (K : Int32 → Option (LV × Mem)) : aI 55 i μ K = K (gi μ 55 i.toNatClampNeg) := by unfold aI; rw [st_h55 s]; exact if_pos ⟨rfl, hi⟩
theorem e_aS55 {μ : Mem} (s : ST μ) {i : Int32} (hi : inb i 6) (x : Int32) (K : Mem → Option (LV × Mem)) : aS 55 i x μ K = K (si μ 55 i.toNatClampNeg x) := by unfold aS; rw [st_h55 s]; exact if_pos ⟨rfl, hi⟩
theorem e_aI56 {μ : Mem} (s : ST μ) {i : Int32} (hi : inb i 6) (K : Int32 → Option (LV × Mem)) : aI 56 i μ K = K (gi μ 56 i.toNatClampNeg) := by unfold aI; rw [st_h56 s]; exact if_pos ⟨rfl, hi⟩
theorem e_aS56 {μ : Mem} (s : ST μ) {i : Int32} (hi : inb i 6) (x : Int32) (K : Mem → Option (LV × Mem)) : aS 56 i x μ K = K (si μ 56 i.toNatClampNeg x) := by unfold aS; rw [st_h56 s]; exact if_pos ⟨rfl, hi⟩
theorem e_aI57 {μ : Mem} (s : ST μ) {i : Int32} (hi : inb i 6) (K : Int32 → Option (LV × Mem)) : aI 57 i μ K = K (gi μ 57 i.toNatClampNeg) := by unfold aI; rw [st_h57 s]; exact if_pos ⟨rfl, hi⟩
theorem e_aS57 {μ : Mem} (s : ST μ) {i : Int32} (hi : inb i 6) (x : Int32) (K : Mem → Option (LV × Mem)) : aS 57 i x μ K = K (si μ 57 i.toNatClampNeg x) := by unfold aS; rw [st_h57 s]; exact if_pos ⟨rfl, hi⟩
theorem e_aI58 {μ : Mem} (s : ST μ) {i : Int32} (hi : inb i 6) (K : Int32 → Option (LV × Mem)) : aI 58 i μ K = K (gi μ 58 i.toNatClampNeg) := by unfold aI; rw [st_h58 s]; exact if_pos ⟨rfl, hi⟩
theorem e_aS58 {μ : Mem} (s : ST μ) {i : Int32} (hi : inb i 6) (x : Int32) (K : Mem → Option (LV × Mem)) : aS 58 i x μ K = K (si μ 58 i.toNatClampNeg x) := by unfold aS; rw [st_h58 s]; exact if_pos ⟨rfl, hi⟩
theorem opt_pay {x : Option (LV × Mem)} (h : x.isSome = true) : ∃ v, x = some (v, pay x) := by
  match x, h with
  | some (v, μ), _ => exact ⟨v, rfl⟩
theorem law_init (xs : Nat → Int32) (L : Nat) : f_L_law xs L mz = k_L_law_18 xs L 4 27 600 0 muI := by
  obtain ⟨v, hv⟩ := opt_pay muH_ok
  obtain ⟨w, hw⟩ := opt_pay muI_ok
  have e1 : f_H_init 4 (nw mz (12, 0)) = some (v, muH) := hv
  have e2 : f_M_init 27 (nw muH (13, 0)) = some (w, muI) := hw
  have h4 : mz.1 + 4 = 4 := rfl
  have h27 : muH.1 + 4 = 27 := by rw [muH_n]
  have n4 : ¬ (4 : Nat) = 0 := by decide
  have n27 : ¬ (27 : Nat) = 0 := by decide
  simp only [f_L_law, nO, cN, h4, if_neg n4, e1, e_bV, h27, if_neg n27, e2]

