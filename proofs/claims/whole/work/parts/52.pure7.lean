/-! the receiver's whole -/
def lrD (lx : RP) (wi wq : Nat → Int32) (d0 : Nat) : RP := lnP (lnP lx (pxA wi wq (d0 + 8 + 0))) (pxA wi wq (d0 + 8 + 16))
theorem cnt_18 : cnt (nI 0) 18 ≤ 240 := by decide +kernel
theorem sy_le : ∀ r, r < 4 → ∀ n, n < 13 → syN r n ≤ 19 := by decide +kernel
