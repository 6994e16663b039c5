/-! Ties: finding the frame. -/
theorem cmp_le' {x y : Int64} : (lg_cmp x y ≤ 0) ↔ x.toInt ≤ y.toInt := by rw [lg_cmp_le, Int64.le_iff_toInt_le]
theorem tie_fs (tx : RP) (wi wq : Nat → Int32) : ∀ d, d < 2 ^ 30 → (fsF tx wi wq d = if (fmF tx wi wq d).2.toInt ≤ 99999999 then (-1, 99999999) else fmF tx wi wq d) ∧ (d = 0 ∧ (fmF tx wi wq d).2 = 0 ∨ ∃ i, i < d ∧ (fmF tx wi wq d).1 = nI i) := by
  have e9 : (99999999 : Int64).toInt = 99999999 := by decide
  intro d
  induction d with
  | zero => intro _; exact ⟨rfl, Or.inl ⟨rfl, rfl⟩⟩
  | succ d ih =>
    intro hd
    obtain ⟨h1, h2⟩ := ih (by omega)
    rcases h2 with ⟨rfl, h2⟩ | ⟨i, hi, h2⟩
    · have hf : fmF tx wi wq 1 = (nI 0, pwF tx wi wq (0 + 8)) := fmF_a (show (-2 : Int32) < 0 by decide)
      rw [hf]
      refine ⟨?_, Or.inr ⟨0, by omega, rfl⟩⟩
      by_cases h : lg_cmp (pwF tx wi wq (0 + 8)) (fsF tx wi wq 0).2 ≤ 0
      · rw [fsF_t h]
        have h3 := cmp_le'.mp h
        rw [if_pos (by show (pwF tx wi wq (0 + 8)).toInt ≤ _; rw [← e9]; exact h3)]; rfl
      · rw [fsF_f h]
        rw [if_neg (fun q => h (cmp_le'.mpr (by show _ ≤ (99999999 : Int64).toInt; rw [e9]; exact q)))]
    · have hn : ¬ (fmF tx wi wq d).1 < 0 := by rw [h2]; exact nI_pos (by omega)
      by_cases hP : (fmF tx wi wq d).2.toInt ≤ 99999999
      · rw [if_pos hP] at h1
        by_cases hm : lg_cmp (pwF tx wi wq (d + 8)) (fmF tx wi wq d).2 ≤ 0
        · rw [fmF_b hn hm]
          have hs : lg_cmp (pwF tx wi wq (d + 8)) (fsF tx wi wq d).2 ≤ 0 := by
            rw [h1]; apply cmp_le'.mpr; have := cmp_le'.mp hm; rw [e9]; omega
          rw [fsF_t hs, if_pos hP]
          exact ⟨h1, Or.inr ⟨i, by omega, h2⟩⟩
        · have hf : fmF tx wi wq (d + 1) = (nI d, pwF tx wi wq (d + 8)) := (if_neg hn).trans (if_neg hm)
          rw [hf]
          refine ⟨?_, Or.inr ⟨d, by omega, rfl⟩⟩
          by_cases h : lg_cmp (pwF tx wi wq (d + 8)) (fsF tx wi wq d).2 ≤ 0
          · rw [fsF_t h, h1]
            have h3 := cmp_le'.mp h
            rw [h1] at h3
            rw [if_pos (by show (pwF tx wi wq (d + 8)).toInt ≤ _; rw [← e9]; exact h3)]
          · rw [fsF_f h]
            rw [h1] at h
            rw [if_neg (fun q => h (cmp_le'.mpr (by show _ ≤ (99999999 : Int64).toInt; rw [e9]; exact q)))]
      · rw [if_neg hP] at h1
        by_cases hm : lg_cmp (pwF tx wi wq (d + 8)) (fmF tx wi wq d).2 ≤ 0
        · rw [fmF_b hn hm, if_neg hP, fsF_t (by rw [h1]; exact hm)]
          exact ⟨h1, Or.inr ⟨i, by omega, h2⟩⟩
        · have hf : fmF tx wi wq (d + 1) = (nI d, pwF tx wi wq (d + 8)) := (if_neg hn).trans (if_neg hm)
          rw [hf, fsF_f (by rw [h1]; exact hm)]
          refine ⟨?_, Or.inr ⟨d, by omega, rfl⟩⟩
          rw [if_neg (fun q => hm (cmp_le'.mpr (by have q : (pwF tx wi wq (d + 8)).toInt ≤ 99999999 := q; omega)))]
/-- none loud enough -/
theorem tie_fA {tx : RP} {wi wq : Nat → Int32} {nd : Nat} (hn : nd ≤ 41) (h : (fsF tx wi wq nd).1 = -1) : fmR (fmF tx wi wq nd) = -2 := by
  obtain ⟨h1, h2⟩ := tie_fs tx wi wq nd (by omega)
  unfold fmR
  rcases h2 with ⟨rfl, _⟩ | ⟨i, hi, h2⟩
  · rfl
  · by_cases hP : (fmF tx wi wq nd).2.toInt ≤ 99999999
    · rw [if_neg]
      intro q
      have := (lg_cmp_ge _ _).mp q
      rw [Int64.le_iff_toInt_le, show (100000000 : Int64).toInt = 100000000 by decide] at this
      omega
    · rw [if_neg hP] at h1
      rw [h1, h2] at h
      exact absurd h (nI_m1 (by omega))
theorem tie_fB {tx : RP} {wi wq : Nat → Int32} {nd d0 : Nat} (hn : nd ≤ 41) (hd : d0 < 2 ^ 30) (h : (fsF tx wi wq nd).1 = nI d0) : fmR (fmF tx wi wq nd) = nI d0 := by
  obtain ⟨h1, h2⟩ := tie_fs tx wi wq nd (by omega)
  unfold fmR
  by_cases hP : (fmF tx wi wq nd).2.toInt ≤ 99999999
  · rw [if_pos hP] at h1
    rw [h1] at h
    exact absurd h.symm (nI_m1 (by omega))
  · rw [if_neg hP] at h1
    rw [h1] at h
    rw [if_pos]
    · exact h
    · apply (lg_cmp_ge _ _).mpr
      rw [Int64.le_iff_toInt_le, show (100000000 : Int64).toInt = 100000000 by decide]
      omega
/-- the class finds none, or one of the first -/
theorem fs_cases (tx : RP) (wi wq : Nat → Int32) (nd : Nat) (hn : nd ≤ 41) : (fsF tx wi wq nd).1 = -1 ∨ ∃ i, i < nd ∧ (fsF tx wi wq nd).1 = nI i := by
  obtain ⟨h1, h2⟩ := tie_fs tx wi wq nd (by omega)
  by_cases hP : (fmF tx wi wq nd).2.toInt ≤ 99999999
  · rw [if_pos hP] at h1; left; rw [h1]
  · rw [if_neg hP] at h1
    right
    rcases h2 with ⟨rfl, h2⟩ | ⟨i, hi, h2⟩
    · rw [h2] at hP; exact absurd (by decide) hP
    · exact ⟨i, hi, by rw [h1]; exact h2⟩
theorem tie_lr (wi wq : Nat → Int32) (d0 : Nat) : lrM wi wq d0 = lrD ((fun _ => nI 0, fun _ => nI 0) : RP) wi wq d0 := by
  unfold lrM lrD
  rw [tie_px, tie_px]
/-! soft values -/
theorem tie_qz (v : Int64) : qzF v = soF v := by
  unfold qzF soF
  have e : v >>> ((nI 10).toInt64 &&& 63) = qzX v := rfl
  rw [e]
  generalize qzX v = x
  have e1 : (-2047 : Int64).toInt = -2047 := by decide
  have e2 : (2047 : Int64).toInt = 2047 := by decide
  by_cases a : 0 ≤ lg_cmp x (-2047)
  · rw [if_pos a]
    have a' := (lg_cmp_ge _ _).mp a
    rw [Int64.le_iff_toInt_le, e1] at a'
    by_cases b : lg_cmp x 2047 ≤ 0
    · rw [if_pos b]
      have b' := (lg_cmp_le _ _).mp b
      rw [Int64.le_iff_toInt_le, e2] at b'
      by_cases c : x < 2047
      · rw [if_pos c, if_neg (by rw [Int64.lt_iff_toInt_lt, e1]; omega)]
      · have : x = 2047 := by
          apply Int64.toInt_inj.mp
          rw [Int64.lt_iff_toInt_lt, e2] at c
          omega
        rw [this]; decide
    · rw [if_neg b]
      have b' : ¬ x ≤ 2047 := fun q => b ((lg_cmp_le _ _).mpr q)
      rw [Int64.le_iff_toInt_le, e2] at b'
      rw [if_neg (show ¬ x < 2047 by rw [Int64.lt_iff_toInt_lt, e2]; omega)]; decide
  · rw [if_neg a]
    have a' : ¬ (-2047 : Int64) ≤ x := fun q => a ((lg_cmp_ge _ _).mpr q)
    rw [Int64.le_iff_toInt_le, e1] at a'
    rw [if_pos (show x < 2047 by rw [Int64.lt_iff_toInt_lt, e2]; omega), if_pos (by rw [Int64.lt_iff_toInt_lt, e1]; omega)]
    decide

/-! soft values of a symbol -/
theorem tie_m1 : ms1 = tc1 := by funext lx px car pl ys; unfold ms1 tc1; rw [tie_qz]
theorem tie_m2 : ms2 = tc2 := by funext lx px car pl ys; unfold ms2 tc2; rw [tie_qz, tie_qz]
theorem tie_m4 : ms4 = tc4 := by funext lx px car pl ys; unfold ms4 tc4; rw [tie_qz, tie_qz, tie_qz, tie_qz, tie_ab, tie_ab]
def tcOK (tc : RP → RP → Nat → Nat → (Nat → Int32) → (Nat → Int32)) (m : Nat) : Prop := ∀ lx px car pl (ys ys' : Nat → Int32) j, (j < pl → ys j = ys' j) → j < pl + m → tc lx px car pl ys j = tc lx px car pl ys' j
theorem tcOK1 : tcOK tc1 1 := by
  intro lx px car pl ys ys' j h hj
  exact upd_at (fun e => h (by omega))
theorem tcOK2 : tcOK tc2 2 := by
  intro lx px car pl ys ys' j h hj
  exact upd_at (fun e => upd_at (fun e2 => h (by omega)))
theorem tcOK4 : tcOK tc4 4 := by
  intro lx px car pl ys ys' j h hj
  exact upd_at (fun e => upd_at (fun e2 => upd_at (fun e3 => upd_at (fun e4 => h (by omega)))))
theorem tsJ_any {tc : RP → RP → Nat → Nat → (Nat → Int32) → (Nat → Int32)} {m : Nat} (ht : tcOK tc m) (lx px : RP) (ys ys' : Nat → Int32) : ∀ i j, j < m * i → tsJ tc m lx px ys i j = tsJ tc m lx px ys' i j := by
  intro i
  induction i with
  | zero => intro j hj; rw [Nat.mul_zero] at hj; omega
  | succ i ih => intro j hj; rw [Nat.mul_succ] at hj; rw [tsJ_s, tsJ_s]; exact ht _ _ _ _ _ _ j (fun h => ih j h) hj
/-- the soft values in coded order -/
def vaF (tc : RP → RP → Nat → Nat → (Nat → Int32) → (Nat → Int32)) (n m : Nat) (lx : RP) (wi wq : Nat → Int32) (fr : Nat) (v : Nat) : Int32 := tsJ tc m lx (pxA wi wq (fr + v / n * 20 + 4)) (fun _ => nI 0) 12 (placeN (v % n) m)
theorem soK_in (n m b : Nat) (ys sf : Nat → Int32) : ∀ k i, i < k → soK n m b ys sf k (b * n + i) = ys (placeN i m) := by
  intro k
  induction k with
  | zero => intro i h; omega
  | succ k ih =>
    intro i h
    rw [soK_s]
    by_cases e : i = k
    · subst e; exact pk_us
    · rw [pk_un (by omega)]; exact ih i (by omega)
theorem soK_lo (n m b : Nat) (ys sf : Nat → Int32) (j : Nat) (hj : j < b * n) : ∀ k, soK n m b ys sf k j = sf j := by
  intro k
  induction k with
  | zero => rfl
  | succ k ih => rw [soK_s, pk_un (by omega)]; exact ih
theorem sf_va {tc : RP → RP → Nat → Nat → (Nat → Int32) → (Nat → Int32)} {n m : Nat} (hn : n = m * 12) (h0 : 0 < n) (ht : tcOK tc m) (hp : ∀ k, k < n → placeN k m < n) (lx : RP) (wi wq : Nat → Int32) (fr : Nat) (ys sf : Nat → Int32) : ∀ S v, v < S * n → sfB tc n m lx wi wq fr ys sf S v = vaF tc n m lx wi wq fr v := by
  intro S
  induction S with
  | zero => intro v h; rw [Nat.zero_mul] at h; omega
  | succ S ih =>
    intro v h
    rw [Nat.succ_mul] at h
    rw [sfB_s]
    by_cases e : v < S * n
    · rw [soK_lo _ _ _ _ _ _ e]; exact ih v e
    · have e2 : v = S * n + (v - S * n) := by omega
      have h3 : v / n = S := by
        rw [e2, Nat.mul_comm S n, Nat.mul_add_div h0, Nat.div_eq_of_lt (by rw [Nat.mul_comm n S]; omega)]; rfl
      have h4 : v % n = v - S * n := by
        rw [e2, Nat.mul_comm S n, Nat.mul_add_mod, Nat.mod_eq_of_lt (by rw [Nat.mul_comm n S]; omega)]
        omega
      have h5 := soK_in n m S (tsJ tc m lx (pxA wi wq (fr + S * 20 + 4)) (ysB tc m lx wi wq fr ys S) 12) (sfB tc n m lx wi wq fr ys sf S) n (v - S * n) (by omega)
      rw [← e2] at h5
      rw [h5]
      unfold vaF
      rw [h3, h4]
      exact tsJ_any ht _ _ _ _ 12 _ (by rw [← hn]; exact hp _ (by omega))
