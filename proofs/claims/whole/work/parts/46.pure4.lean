/-! Bits are bits. -/
theorem and1 (x : Int32) : x &&& 1 = 0 ∨ x &&& 1 = 1 := by
  obtain ⟨j, hj, e⟩ := pk_andE x (m := 1) 1 (by decide)
  rcases (show j = 0 ∨ j = 1 by omega) with rfl | rfl
  · exact Or.inl (e.trans nI_0)
  · exact Or.inr e
theorem coF_bit (w t : Int32) : coF w t = 0 ∨ coF w t = 1 := and1 _
theorem upd_bit {f : Nat → Int32} {k j : Nat} {x : Int32} (hf : j ≠ k → f j = 0 ∨ f j = 1) (hx : x = 0 ∨ x = 1) : upd f k x j = 0 ∨ upd f k x j = 1 := by
  by_cases e : j = k
  · subst e; rw [pk_us]; exact hx
  · rw [pk_un e]; exact hf e
theorem cdF_bit (th : Int32) (pl co : Nat → Int32) : ∀ (k j : Nat), j < cnt th k → cdF th pl co k j = 0 ∨ cdF th pl co k j = 1 := by
  intro k
  induction k with
  | zero => intro j hj; exact absurd hj (Nat.not_lt_zero _)
  | succ k ih =>
    intro j hj
    by_cases a : kpA th k = 0 <;> by_cases b : kpB th k = 0
    · rw [cn00 a b] at hj; rw [cd00 pl co a b]; exact ih j hj
    · rw [cn01 a b] at hj; rw [cd01 pl co a b]; exact upd_bit (fun e => ih j (by omega)) (coF_bit _ _)
    · rw [cn10 a b] at hj; rw [cd10 pl co a b]; exact upd_bit (fun e => ih j (by omega)) (coF_bit _ _)
    · rw [cn11 a b] at hj; rw [cd11 pl co a b]
      exact upd_bit (fun e => upd_bit (fun e2 => ih j (by omega)) (coF_bit _ _)) (coF_bit _ _)
theorem ilK_low (n m : Nat) (co : Nat → Int32) (b : Nat) (pd : Nat → Int32) : ∀ (k j : Nat), j < n * b → ilK n m co b pd k j = pd j := by
  intro k
  induction k with
  | zero => intro j _; rfl
  | succ k ih =>
    intro j hj
    show upd (ilK n m co b pd k) (n * b + placeN k m) (co (n * b + k)) j = pd j
    rw [pk_un (by omega)]; exact ih j hj
theorem ilK_some (n m : Nat) (co : Nat → Int32) (b : Nat) (pd : Nat → Int32) (q : Nat) : ∀ k, (∃ i, i < k ∧ placeN i m = q) → ∃ i, i < k ∧ ilK n m co b pd k (n * b + q) = co (n * b + i) := by
  intro k
  induction k with
  | zero => rintro ⟨i, hi, _⟩; omega
  | succ k ih =>
    rintro ⟨i, hi, e⟩
    by_cases h : placeN k m = q
    · refine ⟨k, by omega, ?_⟩
      show upd (ilK n m co b pd k) (n * b + placeN k m) (co (n * b + k)) (n * b + q) = _
      rw [h, pk_us]
    · have hi2 : i < k := by
        rcases Nat.lt_or_eq_of_le (Nat.le_of_lt_succ hi) with h1 | h1
        · exact h1
        · subst h1; exact absurd e h
      obtain ⟨i2, h1, h2⟩ := ih ⟨i, hi2, e⟩
      refine ⟨i2, by omega, ?_⟩
      show upd (ilK n m co b pd k) (n * b + placeN k m) (co (n * b + k)) (n * b + q) = _
      rw [pk_un (by omega)]; exact h2
theorem ilB_some (n m : Nat) (co pd : Nat → Int32) (hs : ∀ q, q < n → ∃ i, i < n ∧ placeN i m = q) : ∀ (b j : Nat), j < n * b → ∃ i, i < n * b ∧ ilB n m co pd b j = co i := by
  intro b
  induction b with
  | zero => intro j hj; rw [Nat.mul_zero] at hj; omega
  | succ b ih =>
    intro j hj
    rw [Nat.mul_succ] at hj
    show ∃ i, i < n * (b + 1) ∧ ilK n m co b (ilB n m co pd b) n j = co i
    rw [Nat.mul_succ]
    by_cases h : j < n * b
    · rw [ilK_low n m co b _ n j h]
      obtain ⟨i, h1, h2⟩ := ih j h
      exact ⟨i, by omega, h2⟩
    · obtain ⟨i, h1, h2⟩ := ilK_some n m co b (ilB n m co pd b) (j - n * b) n (hs _ (by omega))
      rw [show n * b + (j - n * b) = j by omega] at h2
      exact ⟨n * b + i, by omega, h2⟩
theorem sur1 : ∀ q, q < 12 → ∃ i, i < 12 ∧ placeN i 1 = q := by decide +kernel
theorem sur2 : ∀ q, q < 24 → ∃ i, i < 24 ∧ placeN i 2 = q := by decide +kernel
theorem sur4 : ∀ q, q < 48 → ∃ i, i < 48 ∧ placeN i 4 = q := by decide +kernel
theorem il4_bit (th : Int32) (pl co pd : Nat → Int32) (k b : Nat) (h : cnt th k = 48 * b) : ∀ j, j < cnt th k → ilB 48 4 (cdF th pl co k) pd b j = 0 ∨ ilB 48 4 (cdF th pl co k) pd b j = 1 := by
  intro j hj
  rw [h] at hj
  obtain ⟨i, h1, h2⟩ := ilB_some 48 4 (cdF th pl co k) pd sur4 b j hj
  rw [h2]
  exact cdF_bit th pl co k i (by omega)
/-! the air -/
def nsF (x : Int32) : Int32 := x * 1103515245 + 12345
theorem k_loopN {P : Nat → Prop} (h : ∀ j, (∀ i, j = i + 1 → P i) → P j) : ∀ j, P j := by
  intro j
  induction j with
  | zero => exact h 0 (fun i e => by omega)
  | succ j ih => exact h (j + 1) (fun i e => by cases e; exact ih)
theorem k_prd (i : Nat) : nI (i + 1) - nI 1 = nI i := by rw [pk_sub (by omega)]; rfl
theorem k_dec1 (i : Nat) : nI i + Int32.ofInt (-1) = nI i - nI 1 := by
  rw [Int32.sub_eq_add_neg]; rfl
theorem k_lt0 {j : Nat} (hj : j < 2 ^ 30) (h : ¬ nI j - nI 1 < 0) : ∃ i, j = i + 1 := by
  cases j with
  | zero => exact absurd (by decide) h
  | succ i => exact ⟨i, rfl⟩
theorem k_eq0 {j : Nat} (hj : j < 2 ^ 30) (h : nI j - nI 1 < 0) : j = 0 := by
  cases j with
  | zero => rfl
  | succ i => rw [k_prd] at h; exact absurd h (nI_pos (by omega))
