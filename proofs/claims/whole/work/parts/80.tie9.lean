/-! Ties: a whole hearing. -/
theorem tie_sigd {wi wq : Nat → Int32} {d0 : Nat} {ys sf ys2 sa sb ob bf bf2 : Nat → Int32} {cf : Nat → Int64} {LX l9 : RP} {S1 B1 A1 C1 BT : Nat → Int32} (hLX : lrD ((fun _ => nI 0, fun _ => nI 0) : RP) wi wq d0 = LX) (hS1 : sfB tc1 12 1 LX wi wq (d0 + 40) ys sf 3 = S1) (hB1 : dcB (nI 0) S1 18 cf bf = B1)
    (hl9 : lrM wi wq d0 = l9) (hA1 : liA (nI 0) (vrF ms1 12 1 l9 wi wq (d0 + 44 + 20 * 0) ys2) sa (12 * 3) = A1) (hC1 : liB (nI 0) (vrF ms1 12 1 l9 wi wq (d0 + 44 + 20 * 0) ys2) sb (12 * 3) = C1) (hBT : gbM (odM A1 C1 ob 18) 18 (fgF (vmM A1 C1 18) 64) bf2 = BT) :
    LX = l9 ∧ (∀ i, i < 18 → B1 i = BT i) ∧ (∀ i, i < 18 → B1 i = 0 ∨ B1 i = 1) := by
  have e : LX = l9 := by rw [← hLX, ← hl9, tie_lr]
  subst e
  refine ⟨rfl, ?_⟩
  have T := tie_ld (tc := tc1) (n := 12) (m := 1) rfl (by decide) tcOK1 place1 (nI 0) LX wi wq (d0 + 40) ys sf ys2 sa sb ob bf bf2 cf 3 18 (by decide +kernel)
  rw [tie_m1] at hA1 hC1
  subst hS1; subst hB1; subst hA1; subst hC1; subst hBT
  exact ⟨T.1, T.2.2⟩
theorem tie_datd {tcx msx : RP → RP → Nat → Nat → (Nat → Int32) → (Nat → Int32)} {n m : Nat} (hms : msx = tcx) (hn : n = m * 12) (h0 : 0 < n) (ht : tcOK tcx m) (hp : ∀ k, k < n → placeN k m < n) (th : Int32) {S ct : Nat} (hc : cnt th ct = n * S) {wi wq : Nat → Int32} {d0 : Nat} {LX l9 : RP} {ysA sfA ysB sa sb ob bf bf2 : Nat → Int32} {cf : Nat → Int64} {S2 B2 A2 C2 BT2 : Nat → Int32} (hLX : LX = l9)
    (hS2 : sfB tcx n m LX wi wq (d0 + 100) ysA sfA S = S2) (hB2 : dcB th S2 ct cf bf = B2) (hA2 : liA th (vrF msx n m l9 wi wq (d0 + 44 + 20 * 3) ysB) sa (n * S) = A2) (hC2 : liB th (vrF msx n m l9 wi wq (d0 + 44 + 20 * 3) ysB) sb (n * S) = C2) (hBT2 : gbM (odM A2 C2 ob ct) ct (fgF (vmM A2 C2 ct) 64) bf2 = BT2) :
    (∀ i, i < ct → B2 i = BT2 i) ∧ dcM th S2 ct = vmM A2 C2 ct (fgF (vmM A2 C2 ct) 64) ∧ (∀ i, i < ct → B2 i = 0 ∨ B2 i = 1) := by
  subst hLX; subst hms
  have T := tie_ld (tc := msx) hn h0 ht hp th LX wi wq (d0 + 100) ysA sfA ysB sa sb ob bf bf2 cf S ct hc
  have e : d0 + 44 + 20 * 3 = d0 + 100 + 4 := by omega
  rw [e] at hA2 hC2
  subst hS2; subst hB2; subst hA2; subst hC2; subst hBT2
  exact T
/-! numbers within bounds -/
theorem btw {x : Int32} {lo hi : Nat} (h1 : ¬ x < nI lo) (h2 : ¬ nI hi < x) (hl : lo < 2 ^ 31) (hh : hi < 2 ^ 31) : ∃ k, x = nI k ∧ lo ≤ k ∧ k ≤ hi := by
  have h0 : ¬ x < 0 := by
    intro q
    apply h1
    rw [Int32.lt_iff_toInt_lt] at q ⊢
    rw [nI_toInt hl]
    have : (0 : Int32).toInt = 0 := by decide
    omega
  obtain ⟨k, hk, rfl⟩ := nI_of h0
  refine ⟨k, rfl, ?_, ?_⟩
  · exact Nat.not_lt.mp (fun q => h1 ((nI_ltI hk hl).mpr q))
  · exact Nat.not_lt.mp (fun q => h2 ((nI_ltI hh hk).mpr q))
theorem btw0 {x : Int32} {hi : Nat} (h1 : ¬ x < 0) (h2 : ¬ nI hi < x) (hh : hi < 2 ^ 31) : ∃ k, x = nI k ∧ k ≤ hi := by
  obtain ⟨k, hk, rfl⟩ := nI_of h1
  exact ⟨k, rfl, Nat.not_lt.mp (fun q => h2 ((nI_ltI hh hk).mpr q))⟩
theorem btwl {x : Int32} {n : Nat} (h1 : ¬ x < 0) (h2 : x < nI n) (hh : n < 2 ^ 31) : ∃ k, x = nI k ∧ k < n := by
  obtain ⟨k, hk, rfl⟩ := nI_of h1
  exact ⟨k, rfl, (nI_ltI hk hh).mp h2⟩
theorem gt_of_nlt {x : Int32} {n : Nat} (h : ¬ x < nI (n + 1)) (hh : n + 1 < 2 ^ 31) : nI n < x := by
  rw [Int32.lt_iff_toInt_lt, nI_toInt hh] at h
  rw [Int32.lt_iff_toInt_lt, nI_toInt (by omega)]
  omega
theorem nd_ex (ac : Nat) : ∃ nd, nd ≤ 41 ∧ (nd = 0 ∨ nd + 99 ≤ ac) ∧ (nd = 41 ∨ ac < nd + 100) := ⟨min 41 (ac - 99), by omega, by omega, by omega⟩
theorem isP_n {bt : Nat → Int32} {n : Nat} (h : isP bt) (hn : nbF bt 2 4 = nI n) (hh : n < 2 ^ 31) : 1 ≤ n ∧ n < 13 := by
  obtain ⟨-, -, h1, h2⟩ := h
  rw [hn] at h1 h2
  rw [nI_ltI hh (by decide)] at h1
  rw [nI_ltI (by decide) hh] at h2
  omega
