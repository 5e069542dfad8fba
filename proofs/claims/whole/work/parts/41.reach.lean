/-! way, can, launch, reached -/
def ab (x : Int32) : Int32 := if 0 ≤ x then x else -x
def wayv (μ : Mem) (b c : Nat) : Int32 := ab (gi μ 28 (gi μ 37 b).toNatClampNeg - gi μ 41 c) + gi μ 42 c
def spd (μ : Mem) (b c : Nat) : Int32 := gi μ 40 (5 * b + (gi μ 43 c).toNatClampNeg)
def cu (a v : Int32) : Int32 := (a + v - 1) / v
def can (μ : Mem) (b c : Nat) : Int32 := if spd μ b c ≤ 0 then 0 else if gi μ 38 b < cu (2 * wayv μ b c) (spd μ b c) then 0 else 1
/-- the first open hour from h + k on, of r -/
def srch (o : Int32 → Int32) (h : Int32) : Nat → Nat → Int32
  | 0, _ => -9
  | r + 1, k => if o (h + nI k) = 0 then srch o h r (k + 1) else (h + nI k) * 60
def rdy (μ : Mem) (b : Nat) : Int32 := (if gi μ 39 b ≤ gi μ 27 0 then gi μ 27 0 else gi μ 39 b) + gi μ 27 6
def lau (μ : Mem) (b : Nat) : Int32 := if opn (gi μ 36) (gi μ 29) (gi μ 37 b) (rdy μ b / 60) = 0 then srch (opn (gi μ 36) (gi μ 29) (gi μ 37 b)) (rdy μ b / 60) 48 1 else rdy μ b
def rea (μ : Mem) (b c : Nat) : Int32 := if can μ b c = 0 then -9 else if lau μ b = -9 then -9 else lau μ b + cu (wayv μ b c * 60) (spd μ b c)
theorem MA_ab (x : Int32) (μ : Mem) : f_MA_abs x μ = some (.inl (ab x), μ) := by
  unfold f_MA_abs ab
  split <;> rfl
theorem M_size (x : Int32) (μ : Mem) : f_M_size x μ = some (.inl (ab x), μ) := by
  unfold f_M_size ab
  split <;> rfl
theorem ab_ti {x : Int32} (h1 : -2147483648 < x.toInt) : (ab x).toInt = if 0 ≤ x.toInt then x.toInt else -x.toInt := by
  unfold ab
  by_cases h : 0 ≤ x
  · rw [if_pos h, if_pos (by simpa using (i32_le _ _).mp h)]
  · have h2 : ¬ 0 ≤ x.toInt := fun q => h ((i32_le _ _).mpr (by simpa using q))
    rw [if_neg h, if_neg h2]
    have e : -x = 0 - x := by rw [Int32.zero_sub]
    rw [e, sub_ti (by simp; omega) (by simp; have := Int32.toInt_lt x; omega)]
    simp
section WY
variable {μ : Mem} {B C : Nat → Nat} {b c nb nc : Nat}
theorem at_in (bb : BOA B b μ) : inb (gi μ 37 b) 6 := inb_of bb.2.2.2.2.2.2.2.2.2.1.1 (by have := bb.2.2.2.2.2.2.2.2.2.1.2; omega)
theorem sea_in (cc : CAL C c μ) : inb (gi μ 43 c) 5 := inb_of cc.2.2.2.2.2.2.2.1 (by have := cc.2.2.2.2.2.2.2.2; omega)
theorem H_way (st : ST μ) (mi : I_miles μ) (bb : BOA B b μ) (cc : CAL C c μ) : f_H_wayOf 4 (B b) (C c) μ = some (.inl (wayv μ b c), μ) := by
  have ia := at_in bb
  unfold f_H_wayOf wayv
  rw [e_gR4_0 st, gI_at bb.2.1, bb.2.2.2.2.2.1, e_aI5 st ia, (mi _ ia.2).1, gI_at cc.2.1, cc.2.2.1, MA_ab, e_bI, gI_at cc.2.1, cc.2.2.2.1]
theorem M_way (st : ST μ) (hb : b < 8) (hc : c < 20) (ia : inb (gi μ 37 b) 6) : f_M_way 27 (nI b) (nI c) μ = some (.inl (wayv μ b c), μ) := by
  unfold f_M_way wayv
  rw [e_gR27_7 st, e_gR27_16 st, e_aI37 st (inb_nI hb (by omega)), cl_nI (by omega), e_aI28 st ia, e_gR27_20 st, e_aI41 st (inb_nI hc (by omega)), cl_nI (by omega), M_size, e_bI, e_gR27_21 st, e_aI42 st (inb_nI hc (by omega)), cl_nI (by omega)]
theorem M_spd (st : ST μ) (hb : b < 8) (hc : c < 20) (is : inb (gi μ 43 c) 5) : f_M_speedFor 27 (nI b) (nI c) μ = some (.inl (spd μ b c), μ) := by
  have e := clamp_nI (s := gi μ 43 c) (by simpa using (i32_le _ _).mp is.1)
  have h5 := is.2
  unfold f_M_speedFor spd
  rw [e_gR27_19 st, e_gR27_22 st, e_aI43 st (inb_nI hc (by omega)), cl_nI (by omega)]
  generalize (gi μ 43 c).toNatClampNeg = s at e h5
  rw [e, nI_5, e_aI40 st (inb_nI (by omega) (by omega)), cl_nI (by omega)]
theorem H_spd (bb : BOA B b μ) (cc : CAL C c μ) (K : Int32 → Option (LV × Mem)) : aI (B b + 1) (gi μ 43 c) μ K = K (spd μ b c) := by
  have is := sea_in cc
  rw [aI_at bb.2.2.1 is, bb.2.2.2.2.2.2.2.1 _ is.2]
  rfl
theorem H_cut {a v : Int32} (h : ¬ v ≤ 0) : f_H_cutUp a v μ = some (.inl (cu a v), μ) := by
  have h1 : (1 : Int32) ≤ v := by rw [i32_le] at h ⊢; simp at h ⊢; omega
  have h0 : ¬ v = 0 := fun q => h (by rw [q]; decide)
  unfold f_H_cutUp idv cu
  rw [if_pos h1, if_neg h0]
theorem M_upv {a v : Int32} (h : ¬ v ≤ 0) : f_M_up a v μ = some (.inl (cu a v), μ) := by
  have h0 : ¬ v = 0 := fun q => h (by rw [q]; decide)
  unfold f_M_up idv cu
  rw [if_neg h0]
theorem H_can (st : ST μ) (mi : I_miles μ) (bb : BOA B b μ) (cc : CAL C c μ) : f_H_canGo 4 (B b) (C c) μ = some (.inl (can μ b c), μ) := by
  unfold f_H_canGo can
  rw [gR_at bb.2.1, bb.2.2.2.1, gI_at cc.2.1, cc.2.2.2.2.1, H_spd bb cc]
  by_cases h : spd μ b c ≤ 0
  · rw [if_pos h, if_pos h]
  · rw [if_neg h, if_neg h, e_cV4 st, H_way st mi bb cc, e_bI, H_cut h, e_bI, gI_at bb.2.1, bb.2.2.2.2.1]
    split <;> rfl
theorem M_canv (st : ST μ) (hb : b < 8) (hc : c < 20) (ia : inb (gi μ 37 b) 6) (is : inb (gi μ 43 c) 5) : f_M_can 27 (nI b) (nI c) μ = some (.inl (can μ b c), μ) := by
  unfold f_M_can can
  rw [e_cV27 st, M_spd st hb hc is, e_bI]
  by_cases h : spd μ b c ≤ 0
  · rw [if_pos h, if_pos h]
  · rw [if_neg h, if_neg h, e_cV27 st, M_way st hb hc ia, e_bI, M_upv h, e_bI, e_gR27_17 st, e_aI38 st (inb_nI hb (by omega)), cl_nI (by omega)]
    split <;> rfl
theorem hk_nn {h : Int32} {k : Nat} (h0 : rng h 0 10000) (hk : k ≤ 49) : 0 ≤ (h + nI k).toInt := by
  have t := ti_nI (p := k) (by omega)
  rw [add_ti (by have := h0.1; omega) (by have := h0.2; omega)]
  have := h0.1
  omega
theorem H_srch (st : ST μ) (it : I_tide μ) (ne : I_needs μ) (bb : BOA B b μ) {h : Int32} (h0 : rng h 0 10000) : ∀ f r k, k + r = 49 → r < f → k_H_launchMinute_39 (fun b3 b4 m_ => b_H_launchMinute_61 b3 b4 m_) 4 (B b) h f (nI k) μ = some (.inl (srch (opn (gi μ 36) (gi μ 29) (gi μ 37 b)) h r k), μ)
  | 0, r, k, _, q => by omega
  | f + 1, 0, k, e, q => by
    have ek : k = 49 := by omega
    subst ek
    simp only [k_H_launchMinute_39]
    rw [if_pos (by decide)]
    rfl
  | f + 1, r + 1, k, e, q => by
    have ih := H_srch st it ne bb h0 f r (k + 1) (by omega) (by omega)
    simp only [k_H_launchMinute_39]
    rw [if_neg (show ¬ (48 : Int32) < nI k from nI_nlt (b := k) (a := 48) (by omega) (by omega)), gI_at bb.2.1, bb.2.2.2.2.2.1, e_cV4 st, H_open st it ne (at_in bb) (hk_nn h0 (by omega)), e_bI]
    simp only [srch]
    by_cases d : opn (gi μ 36) (gi μ 29) (gi μ 37 b) (h + nI k) = 0
    · rw [if_pos d, if_pos d, nI_1]; exact ih
    · rw [if_neg d, if_neg d]; rfl
theorem M_srch (st : ST μ) (hb : b < 8) (ia : inb (gi μ 37 b) 6) {h : Int32} (h0 : rng h 0 10000) : ∀ f r k, k + r = 49 → r < f → k_M_launch_51 (fun b3 b4 m_ => b_M_launch_75 b3 b4 m_) 27 (nI b) h f (nI k) μ = some (.inl (srch (opn (gi μ 36) (gi μ 29) (gi μ 37 b)) h r k), μ)
  | 0, r, k, _, q => by omega
  | f + 1, 0, k, e, q => by
    have ek : k = 49 := by omega
    subst ek
    simp only [k_M_launch_51]
    rw [if_pos (by decide)]
    rfl
  | f + 1, r + 1, k, e, q => by
    have ih := M_srch st hb ia h0 f r (k + 1) (by omega) (by omega)
    simp only [k_M_launch_51]
    rw [if_neg (show ¬ (48 : Int32) < nI k from nI_nlt (b := k) (a := 48) (by omega) (by omega)), e_gR27_16 st, e_aI37 st (inb_nI hb (by omega)), cl_nI (by omega), e_cV27 st, M_open st ia (hk_nn h0 (by omega)), e_bI]
    simp only [srch]
    by_cases d : opn (gi μ 36) (gi μ 29) (gi μ 37 b) (h + nI k) = 0
    · rw [if_pos d, if_pos d, nI_1]; exact ih
    · rw [if_neg d, if_neg d, Int32.mul_comm (h + nI k) 60]; rfl
theorem rdy_rng (mm : I_misc μ) (bb : BOA B b μ) : rng (rdy μ b) 5 300030 := by
  have m := mm.2.2.2.1
  have g := mm.2.2.2.2.2
  have a := bb.2.2.2.2.2.2.2.2.2.2.1
  unfold rdy rng at *
  split
  · rw [add_ti (by omega) (by omega)]; omega
  · rw [add_ti (by omega) (by omega)]; omega
theorem rdy60 (mm : I_misc μ) (bb : BOA B b μ) : rng (rdy μ b / 60) 0 10000 := by
  have r := rdy_rng mm bb
  unfold rng at *
  rw [div_ti (by omega) (by decide)]
  simp only [show (60 : Int32).toInt = 60 from rfl]
  omega
theorem H_launch (st : ST μ) (mm : I_misc μ) (it : I_tide μ) (ne : I_needs μ) (bb : BOA B b μ) : f_H_launchMinute 4 (B b) μ = some (.inl (lau μ b), μ) := by
  have r60 := rdy60 mm bb
  have hmax : ∀ ν : Mem, f_MA_max (gi μ 27 0) (gi μ 39 b) ν = some (.inl (if gi μ 39 b ≤ gi μ 27 0 then gi μ 27 0 else gi μ 39 b), ν) := fun ν => by
    unfold f_MA_max
    by_cases q : gi μ 27 0 < gi μ 39 b
    · rw [if_pos q, if_neg (Int32.not_le.mpr q)]
    · rw [if_neg q, if_pos (Int32.not_lt.mp q)]
  unfold f_H_launchMinute
  rw [e_gI4 st, mm.1, gI_at bb.2.1, bb.2.2.2.2.2.2.1, hmax, e_bI, e_gI4 st, mm.2.2.1, e_nm]
  show nm (rdy μ b / 60) _ = _
  rw [e_nm, gI_at bb.2.1, bb.2.2.2.2.2.1, e_cV4 st, H_open st it ne (at_in bb) r60.1, e_bI]
  unfold lau
  by_cases d : opn (gi μ 36) (gi μ 29) (gi μ 37 b) (rdy μ b / 60) = 0
  · rw [if_pos d, if_pos d]; exact H_srch st it ne bb r60 120000 48 1 (by omega) (by omega)
  · rw [if_neg d, if_neg d]; rfl
theorem M_launch (st : ST μ) (mm : I_misc μ) (bb : BOA B b μ) (hb : b < 8) : f_M_launch 27 (nI b) μ = some (.inl (lau μ b), μ) := by
  have r60 := rdy60 mm bb
  have ia := at_in bb
  have key : ∀ x, rdy μ b = x + gi μ 27 6 → b_M_launch_21 27 (nI b) x μ = some (.inl (lau μ b), μ) := fun x hx => by
    unfold b_M_launch_21
    rw [e_gI27 st, ← hx, e_nm, e_nm, e_gR27_16 st, e_aI37 st (inb_nI hb (by omega)), cl_nI (by omega), e_cV27 st, M_open st ia r60.1, e_bI]
    unfold lau
    by_cases d : opn (gi μ 36) (gi μ 29) (gi μ 37 b) (rdy μ b / 60) = 0
    · rw [if_pos d, if_pos d]; exact M_srch st hb ia r60 120000 48 1 (by omega) (by omega)
    · rw [if_neg d, if_neg d]
  unfold f_M_launch
  rw [e_cV27 st, M_isAway st hb, e_bI]
  by_cases d : gi μ 39 b ≤ gi μ 27 0
  · rw [if_pos d, if_pos rfl, e_gI27 st]
    exact key _ (by unfold rdy; rw [if_pos d])
  · rw [if_neg d, if_neg (by decide), e_gR27_18 st, e_aI39 st (inb_nI hb (by omega)), cl_nI (by omega)]
    exact key _ (by unfold rdy; rw [if_neg d])
theorem can_spd (h : ¬ can μ b c = 0) : ¬ spd μ b c ≤ 0 := fun q => h (by unfold can; rw [if_pos q])
theorem H_reach (st : ST μ) (mm : I_misc μ) (mi : I_miles μ) (it : I_tide μ) (ne : I_needs μ) (bb : BOA B b μ) (cc : CAL C c μ) : f_H_reachedMinute 4 (B b) (C c) μ = some (.inl (rea μ b c), μ) := by
  unfold f_H_reachedMinute rea
  rw [e_cV4 st, H_can st mi bb cc, e_bI]
  by_cases h : can μ b c = 0
  · rw [if_pos h, if_pos h]
  · rw [if_neg h, if_neg h, e_cV4 st, H_launch st mm it ne bb, e_bI]
    by_cases q : lau μ b = -9
    · rw [if_pos q, if_pos q]
    · rw [if_neg q, if_neg q, e_cV4 st, H_way st mi bb cc, e_bI, gR_at bb.2.1, bb.2.2.2.1, gI_at cc.2.1, cc.2.2.2.2.1, H_spd bb cc, H_cut (can_spd h), e_bI]
theorem M_reach (st : ST μ) (mm : I_misc μ) (bb : BOA B b μ) (cc : CAL C c μ) (hb : b < 8) (hc : c < 20) : f_M_reached 27 (nI b) (nI c) μ = some (.inl (rea μ b c), μ) := by
  have ia := at_in bb
  have is := sea_in cc
  unfold f_M_reached rea
  rw [e_cV27 st, M_canv st hb hc ia is, e_bI]
  by_cases h : can μ b c = 0
  · rw [if_pos h, if_pos h]
  · rw [if_neg h, if_neg h, e_cV27 st, M_launch st mm bb hb, e_bI]
    by_cases q : lau μ b = -9
    · rw [if_pos q, if_pos q]
    · rw [if_neg q, if_neg q, e_cV27 st, M_way st hb hc ia, e_bI, e_cV27 st, M_spd st hb hc is, e_bI, Int32.mul_comm 60, M_upv (can_spd h), e_bI]
end WY
