/-! Pure words: the reference's send. -/
def sgV (r n k : Nat) (on : Int32) : Int32 := if k < 2 then (nI r >>> (nI k &&& 31)) &&& nI 1 else if k < 6 then (nI n >>> ((nI k - nI 2) &&& 31)) &&& nI 1 else if k = 6 then on &&& nI 1 else nI 0
def sgO (r n : Nat) : Nat → Int32
  | 0 => nI 0
  | k + 1 => sgO r n k + sgV r n k (sgO r n k)
def sgB (r n k : Nat) : Int32 := sgV r n k (sgO r n k)
theorem sgO_s (r n k : Nat) : sgO r n k + sgB r n k = sgO r n (k + 1) := rfl
def mdB (msg : Nat → Int32) (n k : Nat) : Int32 := if k < 7 then nI 0 else if k - 7 < 8 * n then (msg ((k - 7) / 8) >>> (nI ((k - 7) % 8) &&& 31)) &&& nI 1 else nI 0
theorem sub_nl {k j : Nat} (hk : k < 2 ^ 30) (hj : j < 2 ^ 30) (h : ¬ nI k - nI j < 0) : j ≤ k := by
  rw [Int32.lt_iff_toInt_lt, pk_sub_toInt hk hj] at h
  have : (0 : Int32).toInt = 0 := by decide
  omega
theorem sub_lt {k j : Nat} (hk : k < 2 ^ 30) (hj : j < 2 ^ 30) (h : nI k - nI j < 0) : k < j := by
  rw [Int32.lt_iff_toInt_lt, pk_sub_toInt hk hj] at h
  have : (0 : Int32).toInt = 0 := by decide
  omega
def tzF (n : Nat) (f : Nat → Int32) : Nat → Nat → Int32
  | 0 => f
  | i + 1 => upd (tzF n f i) (7 + 8 * n + i) (nI 0)
theorem tzF_0 (n : Nat) (f : Nat → Int32) : tzF n f 0 = f := rfl
theorem tzF_s (n : Nat) (f : Nat → Int32) (i : Nat) : tzF n f (i + 1) = upd (tzF n f i) (7 + 8 * n + i) (nI 0) := rfl
theorem cnt_18b : cnt (nI 0) 18 ≤ 340 := by decide +kernel
def mdF (msg : Nat → Int32) (n : Nat) (sd : Int32) (k : Nat) : Int32 := mdB msg n k ^^^ scF (scI sd k)
theorem gF_0 (h f : Nat → Int32) : gF h f 0 = f := rfl
theorem gF_s (h f : Nat → Int32) (k : Nat) : gF h f (k + 1) = upd (gF h f k) k (h k) := rfl
theorem il_bit_all (th : Int32) (bA bB co pd : Nat → Int32) (k sb : Nat) (hb : ∀ j, j < cnt th k → cdG th bA bB co k j = 0 ∨ cdG th bA bB co k j = 1) (h : cnt th k = 48 * sb) : ∀ b j, j < 48 * b → b ≤ sb → ilB 48 4 (cdG th bA bB co k) pd b j = 0 ∨ ilB 48 4 (cdG th bA bB co k) pd b j = 1 := by
  intro b j hj hbs
  obtain ⟨i, h1, h2⟩ := ilB_some 48 4 (cdG th bA bB co k) pd sur4 b j hj
  rw [h2]
  exact hb i (by omega)
theorem cdG_bit (th : Int32) (bA bB co : Nat → Int32) (n : Nat) (hA : ∀ k, k < n → bA k = 0 ∨ bA k = 1) (hB : ∀ k, k < n → bB k = 0 ∨ bB k = 1) : ∀ (k j : Nat), k ≤ n → j < cnt th k → cdG th bA bB co k j = 0 ∨ cdG th bA bB co k j = 1 := by
  intro k
  induction k with
  | zero => intro j _ hj; exact absurd hj (Nat.not_lt_zero _)
  | succ k ih =>
    intro j hn hj
    by_cases a : kpA th k = 0 <;> by_cases b : kpB th k = 0
    · rw [cn00 a b] at hj; rw [cg00 bA bB co a b]; exact ih j (by omega) hj
    · rw [cn01 a b] at hj; rw [cg01 bA bB co a b]; exact upd_bit (fun e => ih j (by omega) (by omega)) (hB k (by omega))
    · rw [cn10 a b] at hj; rw [cg10 bA bB co a b]; exact upd_bit (fun e => ih j (by omega) (by omega)) (hA k (by omega))
    · rw [cn11 a b] at hj; rw [cg11 bA bB co a b]
      exact upd_bit (fun e => upd_bit (fun e2 => ih j (by omega) (by omega)) (hA k (by omega))) (hB k (by omega))
theorem xor_bit {a b : Int32} (ha : a = 0 ∨ a = 1) (hb : b = 0 ∨ b = 1) : a ^^^ b = 0 ∨ a ^^^ b = 1 := by
  rcases ha with rfl | rfl <;> rcases hb with rfl | rfl <;> decide
theorem paF_bit {f : Nat → Int32} {k j n : Nat} (hk : k < n) (hf : ∀ i, i < n → f i = 0 ∨ f i = 1) : paF f k j = 0 ∨ paF f k j = 1 := by
  unfold paF; split
  · exact Or.inl rfl
  · exact hf _ (by omega)
theorem mcX_bit {f : Nat → Int32} {k n : Nat} (hk : k < n) (hf : ∀ i, i < n → f i = 0 ∨ f i = 1) : mcX f k = 0 ∨ mcX f k = 1 :=
  xor_bit (xor_bit (xor_bit (hf k hk) (paF_bit hk hf)) (paF_bit hk hf)) (paF_bit hk hf)
theorem mcA_bit {f : Nat → Int32} {n : Nat} (hf : ∀ i, i < n → f i = 0 ∨ f i = 1) : ∀ k, k < n → mcA f k = 0 ∨ mcA f k = 1 := fun k hk => xor_bit (mcX_bit hk hf) (paF_bit hk hf)
theorem mcB_bit {f : Nat → Int32} {n : Nat} (hf : ∀ i, i < n → f i = 0 ∨ f i = 1) : ∀ k, k < n → mcB f k = 0 ∨ mcB f k = 1 := fun k hk => xor_bit (mcX_bit hk hf) (paF_bit hk hf)
theorem scF_bit (x : Int32) : scF x = 0 ∨ scF x = 1 := and1 _
theorem mdB_bit (msg : Nat → Int32) (n k : Nat) : mdB msg n k = 0 ∨ mdB msg n k = 1 := by
  unfold mdB; split
  · exact Or.inl rfl
  · split
    · exact and1 _
    · exact Or.inl rfl
theorem tzF_bit {n m : Nat} {f : Nat → Int32} (hf : ∀ j, j < m → f j = 0 ∨ f j = 1) : ∀ i j, j < m → tzF n f i j = 0 ∨ tzF n f i j = 1 := by
  intro i
  induction i with
  | zero => exact hf
  | succ i ih => intro j hj; exact upd_bit (fun _ => ih j hj) (Or.inl rfl)
theorem dat_bit (msg f : Nat → Int32) (n : Nat) (sd : Int32) (m : Nat) : ∀ j, j < m → tzF n (gF (mdF msg n sd) f m) 6 j = 0 ∨ tzF n (gF (mdF msg n sd) f m) 6 j = 1 :=
  tzF_bit (fun j hj => by rw [gF_all _ f m j hj]; exact xor_bit (mdB_bit _ _ _) (scF_bit _)) 6
