/-! Ties: the class's pure words are the reference's. -/
theorem tie_sb (x : Int32) (am : Nat) (v : Int32) : smV x am v = v + sbY x (nI am) := by
  unfold smV sbY
  rw [show nI 2 * nI am + nI 1 = nI (2 * am + 1) by rw [pk_mul, nI_add]]
  rw [Int32.sub_eq_add_neg, Int32.add_assoc, ← Int32.sub_eq_add_neg]
theorem tie_stir (x : Int32) (am : Nat) (w : RP) : ∀ k, smF x am w k = srF x (nI am) w k := by
  intro k
  induction k with
  | zero => rfl
  | succ k ih => rw [smF_s, srF_s, ih, tie_sb, tie_sb]
theorem tie_ab (v : Int64) : amF v = abF v := by
  unfold amF abF
  by_cases h : 0 ≤ lg_cmp v 0
  · rw [if_pos h]
    have h1 : (0 : Int64) ≤ v := (lg_cmp_ge v 0).mp h
    by_cases h2 : 0 < v
    · rw [if_pos h2]
    · rw [if_neg h2]
      have h3 : v = 0 := by
        apply Int64.toInt_inj.mp
        rw [Int64.le_iff_toInt_le] at h1
        rw [Int64.lt_iff_toInt_lt] at h2
        omega
      rw [h3]; rfl
  · rw [if_neg h]
    have h1 : ¬ (0 : Int64) ≤ v := fun q => h ((lg_cmp_ge v 0).mpr q)
    rw [if_neg (fun q => h1 (by rw [Int64.le_iff_toInt_le]; rw [Int64.lt_iff_toInt_lt] at q; omega))]
theorem nar_s {x : Int32} (h : x.toInt16.toInt32 = x) : narrow .short (.int x) = .int x := by
  rw [← h]; exact pk_ns x
