/-! Pure words: what the reference says of the last hearing. -/
def hd1 (an v : Int32) : Int32 := if an = -2 then -1 else v
def hd2 (an v : Int32) : Int32 := if an = -2 then -1 else if an = -3 then -1 else v
def hd4 (an v : Int32) : Int32 := if an = -2 then -1 else if an = -3 then -1 else if an = -4 then -1 else v
theorem k_lt_m1 {x : Int32} (h : ¬ x = -1) (h2 : x < 0) : x < -1 := by
  rw [Int32.lt_iff_toInt_lt] at *
  have e0 : (0 : Int32).toInt = 0 := by decide
  have e1 : (-1 : Int32).toInt = -1 := by decide
  have : x.toInt ≠ -1 := fun q => h (Int32.toInt_inj.mp (q.trans e1.symm))
  omega
theorem k_nlt_m1 {j : Nat} (h : j < 2 ^ 31) : ¬ nI j < -1 := by
  rw [Int32.lt_iff_toInt_lt, nI_toInt h]
  have e1 : (-1 : Int32).toInt = -1 := by decide
  omega
theorem k_nlt_m1' : ¬ (-1 : Int32) < -1 := by decide
theorem k_m1_lt {j : Nat} (h : j < 2 ^ 31) : (-1 : Int32) < nI j := by
  rw [Int32.lt_iff_toInt_lt, nI_toInt h]
  have e1 : (-1 : Int32).toInt = -1 := by decide
  omega
theorem sat0 : satF (nI 0) = nI 0 := by decide
theorem lv_cg2m {ls : Array Slot} {nL : Nat} {a b a' b' : Int32} {l : List (Nat × Value)} (h : lv_has ls nL ((6, .int b) :: (5, .int a) :: l)) (ha : a = a') (hb : b = b') : lv_has ls nL ((6, .int b') :: (5, .int a') :: l) := by
  subst ha; subst hb; exact h
theorem sw_out {x : Int32} (h : x < 0 ∨ nI 2 < x) : x.toInt < 0 ∨ 2 < x.toInt := by
  rcases h with h | h
  · left; rw [Int32.lt_iff_toInt_lt] at h; exact h
  · right; rw [Int32.lt_iff_toInt_lt, nI_toInt (by decide)] at h; exact h
theorem has_no {x : Int32} {n : Nat} (h : x < 0 ∨ ¬ x < nI n) : hasF x n = 0 := by
  unfold hasF
  by_cases a : x < 0
  · rw [if_pos a]
  · rw [if_neg a]
    rcases h with h | h
    · exact absurd h a
    · rw [if_pos (Int32.not_lt.mp h)]
