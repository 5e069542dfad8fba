/-! the numbers of the crew rows -/
def mor (v m : Int32) : Int32 := if m ≤ v then m else v + 1
def stp (r s m : Int32) : Int32 := if m ≤ irm (r / s) (m + 1) then r else r + s
def rwv (r k : Int32) : Int32 := if (k &&& 8) = 0 then (if (k &&& 3) = 1 then stp (stp r 189 6) 9 2 else if (k &&& 3) = 2 then stp (stp r 189 6) 3 2 else if (k &&& 3) = 3 then stp (stp r 189 6) 1 2 else stp r 189 6) else stp r 27 6
theorem R_step {μ : Mem} {r s m : Int32} (hs : ¬ s = 0) (hm : ¬ m + 1 = 0) : f_R_stepUp r s m μ = some (.inl (stp r s m), μ) := by
  unfold f_R_stepUp idv stp
  rw [if_neg hs]
  unfold irv
  simp only []
  rw [if_neg hm]
  split <;> rfl
theorem R_with {μ : Mem} (r k : Int32) : f_R_rowWith r k μ = some (.inl (rwv r k), μ) := by
  unfold f_R_rowWith rwv
  by_cases a : (k &&& 8) = 0
  · rw [if_pos a, if_pos a, R_step (by decide) (by decide), e_bI, e_nm]
    by_cases b : (k &&& 3) = 1
    · rw [if_pos b, if_pos b, R_step (by decide) (by decide), e_bI]
    rw [if_neg b, if_neg b]
    by_cases c : (k &&& 3) = 2
    · rw [if_pos c, if_pos c, R_step (by decide) (by decide), e_bI]
    rw [if_neg c, if_neg c]
    by_cases d : (k &&& 3) = 3
    · rw [if_pos d, if_pos d, R_step (by decide) (by decide), e_bI]
    rw [if_neg d, if_neg d]
  · rw [if_neg a, if_neg a, R_step (by decide) (by decide), e_bI]
def cml (e d c b a : Int32) : Int32 := (((((((a * 7) + b) * 3) + c) * 9) + (d * 3)) + e)
def cmv (r k : Int32) : Int32 := if (k &&& 8) = 0 then (if (k &&& 3) = 3 then cml (mor (irm r 3) 2) (irm (r / 3) 3) (irm (r / 9) 3) (irm (r / 27) 7) (mor (r / 189) 6) else if (k &&& 3) = 2 then cml (irm r 3) (mor (irm (r / 3) 3) 2) (irm (r / 9) 3) (irm (r / 27) 7) (mor (r / 189) 6) else if (k &&& 3) = 1 then cml (irm r 3) (irm (r / 3) 3) (mor (irm (r / 9) 3) 2) (irm (r / 27) 7) (mor (r / 189) 6) else cml (irm r 3) (irm (r / 3) 3) (irm (r / 9) 3) (irm (r / 27) 7) (mor (r / 189) 6)) else cml (irm r 3) (irm (r / 3) 3) (irm (r / 9) 3) (mor (irm (r / 27) 7) 6) (r / 189)
theorem M_mor {μ : Mem} (v m : Int32) : f_M_more v m μ = some (.inl (mor v m), μ) := by
  unfold f_M_more mor
  split <;> rfl
theorem M_com {μ : Mem} (r k : Int32) : f_M_comes r k μ = some (.inl (cmv r k), μ) := by
  unfold f_M_comes cmv b_M_comes_109
  simp only [e_nm]
  by_cases a : (k &&& 8) = 0
  · rw [if_pos a, if_pos a, M_mor, e_bI]
    by_cases d : (k &&& 3) = 3
    · rw [if_pos d, if_pos d, M_mor, e_bI]; rfl
    rw [if_neg d, if_neg d]
    by_cases c : (k &&& 3) = 2
    · rw [if_pos c, if_pos c, M_mor, e_bI]; rfl
    rw [if_neg c, if_neg c]
    by_cases b : (k &&& 3) = 1
    · rw [if_pos b, if_pos b, M_mor, e_bI]; rfl
    rw [if_neg b, if_neg b]; rfl
  · rw [if_neg a, if_neg a, M_mor, e_bI]; rfl
/-- one step of each digit, by skill -/
def dl (k : Nat) : Nat × Nat × Nat × Nat × Nat := if k < 8 then (1, 0, if k % 4 = 1 then 1 else 0, if k % 4 = 2 then 1 else 0, if k % 4 = 3 then 1 else 0) else (0, 1, 0, 0, 0)
def rwn (r k : Nat) : Nat := 189 * min 6 (r / 189 + (dl k).1) + 27 * min 6 (r / 27 % 7 + (dl k).2.1) + 9 * min 2 (r / 9 % 3 + (dl k).2.2.1) + 3 * min 2 (r / 3 % 3 + (dl k).2.2.2.1) + min 2 (r % 3 + (dl k).2.2.2.2)
theorem rwn_v : ∀ k, k < 16 → ∀ r, r < 1323 → rwv (nI r) (nI k) = nI (rwn r k) ∧ cmv (nI r) (nI k) = nI (rwn r k) := by decide +kernel
