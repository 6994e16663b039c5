/-! Ties: the numbers that the bits tell. -/
def bitB (b : Int32) : Nat := if b = 0 then 0 else 1
theorem bitB_lt (b : Int32) : bitB b < 2 := by unfold bitB; split <;> decide
theorem bitB_e {b : Int32} (h : b = 0 ∨ b = 1) : b = nI (bitB b) := by rcases h with rfl | rfl <;> rfl
theorem nb2 : ∀ a, a < 2 → ∀ b, b < 2 → (nI 0 ||| (nI a <<< (nI 0 &&& 31))) ||| (nI b <<< (nI 1 &&& 31)) = nI (a + 2 * b) ∧ nI a + nI 2 * nI b = nI (a + 2 * b) := by decide +kernel
theorem nb4 : ∀ a, a < 2 → ∀ b, b < 2 → ∀ c, c < 2 → ∀ d, d < 2 → (((nI 0 ||| (nI a <<< (nI 0 &&& 31))) ||| (nI b <<< (nI 1 &&& 31))) ||| (nI c <<< (nI 2 &&& 31))) ||| (nI d <<< (nI 3 &&& 31)) = nI (a + 2 * b + 4 * c + 8 * d) ∧ ((nI a + nI 2 * nI b) + nI 4 * nI c) + nI 8 * nI d = nI (a + 2 * b + 4 * c + 8 * d) := by decide +kernel
theorem nbF_cg {f g : Nat → Int32} (fr : Nat) : ∀ k, (∀ i, i < k → f (fr + i) = g (fr + i)) → nbF f fr k = nbF g fr k := by
  intro k
  induction k with
  | zero => intro _; rfl
  | succ k ih =>
    intro h
    show nbF f fr k ||| _ = nbF g fr k ||| _
    rw [ih (fun i hi => h i (by omega)), h k (by omega)]
theorem onF_cg {f g : Nat → Int32} : ∀ k, (∀ i, i < k → f i = g i) → onF f k = onF g k := by
  intro k
  induction k with
  | zero => intro _; rfl
  | succ k ih =>
    intro h
    show onF f k + f k = onF g k + g k
    rw [ih (fun i hi => h i (by omega)), h k (by omega)]
theorem tie_hr {bt : Nat → Int32} (hb : ∀ i, i < 18 → bt i = 0 ∨ bt i = 1) : ∃ r, r < 4 ∧ nbF bt 0 2 = nI r ∧ hrF bt = nI r := by
  obtain ⟨h1, h2⟩ := nb2 (bitB (bt 0)) (bitB_lt _) (bitB (bt 1)) (bitB_lt _)
  have a := bitB_lt (bt 0)
  have b := bitB_lt (bt 1)
  refine ⟨bitB (bt 0) + 2 * bitB (bt 1), by omega, ?_, ?_⟩
  · rw [← h1, ← bitB_e (hb 0 (by omega)), ← bitB_e (hb 1 (by omega))]; rfl
  · rw [← h2, ← bitB_e (hb 0 (by omega)), ← bitB_e (hb 1 (by omega))]; rfl
theorem tie_hb {bt : Nat → Int32} (hb : ∀ i, i < 18 → bt i = 0 ∨ bt i = 1) : ∃ n, n < 16 ∧ nbF bt 2 4 = nI n ∧ hbF bt = nI n := by
  obtain ⟨h1, h2⟩ := nb4 (bitB (bt 2)) (bitB_lt _) (bitB (bt 3)) (bitB_lt _) (bitB (bt 4)) (bitB_lt _) (bitB (bt 5)) (bitB_lt _)
  have a := bitB_lt (bt 2)
  have b := bitB_lt (bt 3)
  have c := bitB_lt (bt 4)
  have d := bitB_lt (bt 5)
  refine ⟨bitB (bt 2) + 2 * bitB (bt 3) + 4 * bitB (bt 4) + 8 * bitB (bt 5), by omega, ?_, ?_⟩
  · rw [← h1, ← bitB_e (hb 2 (by omega)), ← bitB_e (hb 3 (by omega)), ← bitB_e (hb 4 (by omega)), ← bitB_e (hb 5 (by omega))]; rfl
  · rw [← h2, ← bitB_e (hb 2 (by omega)), ← bitB_e (hb 3 (by omega)), ← bitB_e (hb 4 (by omega)), ← bitB_e (hb 5 (by omega))]; rfl
theorem gd_iff (bt : Nat → Int32) : ∀ k, ¬ gdF bt k = 0 ↔ (onF bt 7 - onF bt 7 / nI 2 * nI 2 = 0 ∧ ∀ j, 7 ≤ j → j < 7 + k → bt j = 0) := by
  intro k
  induction k with
  | zero =>
    show ¬ (if _ then _ else _) = _ ↔ _
    by_cases h : onF bt 7 - onF bt 7 / nI 2 * nI 2 = 0
    · rw [if_pos h]; exact ⟨fun _ => ⟨h, fun j h1 h2 => by omega⟩, fun _ => by decide⟩
    · rw [if_neg h]; exact ⟨fun q => absurd rfl q, fun q => absurd q.1 h⟩
  | succ k ih =>
    show ¬ (if _ then _ else _) = _ ↔ _
    by_cases h : gdF bt k = 0
    · rw [if_pos h]
      refine ⟨fun q => absurd rfl q, fun q => absurd h (ih.mpr ⟨q.1, fun j h1 h2 => q.2 j h1 (by omega)⟩)⟩
    · rw [if_neg h]
      have hh := ih.mp h
      by_cases b : bt (7 + k) = 0
      · rw [if_pos b]
        refine ⟨fun _ => ⟨hh.1, fun j h1 h2 => ?_⟩, fun _ => by decide⟩
        by_cases e : j = 7 + k
        · rw [e]; exact b
        · exact hh.2 j h1 (by omega)
      · rw [if_neg b]; exact ⟨fun q => absurd rfl q, fun q => absurd (q.2 (7 + k) (by omega) (by omega)) b⟩
theorem lt1_iff {n : Nat} (h : n < 2 ^ 31) : nI n < nI 1 ↔ nI n ≤ 0 := by
  rw [← nI_0, nI_ltI h (by decide), nI_leI h (by decide)]; omega
theorem tie_sg {bt bt' : Nat → Int32} (hb : ∀ i, i < 18 → bt i = 0 ∨ bt i = 1) (he : ∀ i, i < 18 → bt i = bt' i) : isP bt ↔ ¬ rsF bt' = 0 := by
  have hb' : ∀ i, i < 18 → bt' i = 0 ∨ bt' i = 1 := fun i hi => by rw [← he i hi]; exact hb i hi
  obtain ⟨n, hn, h1, h2⟩ := tie_hb hb
  obtain ⟨n', hn', h1', h2'⟩ := tie_hb hb'
  have e1 : nbF bt 2 4 = nbF bt' 2 4 := nbF_cg 2 4 (fun i hi => he _ (by omega))
  have e2 : onF bt 7 = onF bt' 7 := onF_cg 7 (fun i hi => he _ (by omega))
  have g := gd_iff bt' 11
  unfold isP rsF
  rw [e2, e1, h1', h2', lt1_iff (by omega)]
  constructor
  · rintro ⟨a, b, c, d⟩
    have : ¬ gdF bt' 11 = 0 := g.mpr ⟨b, fun j h1 h2 => by rw [← he j (by omega)]; exact a j h1 (by omega)⟩
    rw [if_neg this, if_neg c, if_neg d]; decide
  · intro q
    by_cases a : gdF bt' 11 = 0
    · rw [if_pos a] at q; exact absurd rfl q
    · rw [if_neg a] at q
      by_cases c : nI n' ≤ 0
      · rw [if_pos c] at q; exact absurd rfl q
      · rw [if_neg c] at q
        by_cases d : nI 12 < nI n'
        · rw [if_pos d] at q; exact absurd rfl q
        · obtain ⟨b, aa⟩ := g.mp a
          exact ⟨fun j h1 h2 => by rw [he j h2]; exact aa j h1 (by omega), b, c, d⟩
/-! the scrambler's state -/
theorem ts_st : ∀ x, x < 64 → ∀ b, b < 2 → (nI x <<< (nI 1 &&& 31)) ||| nI b = nI (2 * x + b) := by decide +kernel
theorem tie_ts {bt : Nat → Int32} (hb : ∀ i, i < 7 → bt i = 0 ∨ bt i = 1) : ∀ k, k ≤ 7 → ∃ x, x < 2 ^ k ∧ tsF bt k = nI x ∧ seF bt k = nI x := by
  intro k
  induction k with
  | zero => intro _; exact ⟨0, by decide, rfl, rfl⟩
  | succ k ih =>
    intro hk
    obtain ⟨x, hx, h1, h2⟩ := ih (by omega)
    have h64 : 2 ^ k ≤ 64 := Nat.pow_le_pow_right (n := 2) (by decide) (show k ≤ 6 by omega)
    have hl := bitB_lt (bt k)
    refine ⟨2 * x + bitB (bt k), by rw [Nat.pow_succ]; omega, ?_, ?_⟩
    · show (tsF bt k <<< (nI 1 &&& 31)) ||| bt k = _
      rw [h1, bitB_e (hb k (by omega)), ts_st x (by omega) _ hl, ← bitB_e (hb k (by omega))]
    · rw [seF_s, h2, bitB_e (hb k (by omega)), pk_mul, nI_add, ← bitB_e (hb k (by omega))]
theorem tsF_cg {f g : Nat → Int32} : ∀ k, (∀ i, i < k → f i = g i) → tsF f k = tsF g k := by
  intro k
  induction k with
  | zero => intro _; rfl
  | succ k ih =>
    intro h
    show (tsF f k <<< (nI 1 &&& 31)) ||| f k = (tsF g k <<< (nI 1 &&& 31)) ||| g k
    rw [ih (fun i hi => h i (by omega)), h k (by omega)]
theorem tie_se {bt bt' : Nat → Int32} (hb : ∀ i, i < 7 → bt i = 0 ∨ bt i = 1) (he : ∀ i, i < 7 → bt i = bt' i) : tsF bt 7 = seF bt' 7 := by
  rw [tsF_cg 7 he]
  obtain ⟨x, _, h1, h2⟩ := tie_ts (bt := bt') (fun i hi => by rw [← he i hi]; exact hb i hi) 7 (Nat.le_refl _)
  rw [h1, h2]
/-! a byte -/
theorem shb : ∀ k, k < 8 → ((nI k &&& 31).toBitVec.smod 32).toNat = k := by decide +kernel
theorem shl_bit (x : Int32) {k : Nat} (hk : k < 8) : (x <<< (nI k &&& 31)).toBitVec = x.toBitVec <<< k := by
  show x.toBitVec <<< ((nI k &&& 31).toBitVec.smod 32).toNat = _
  rw [shb k hk]
theorem bit_lsb {x : Int32} (h : x = 0 ∨ x = 1) {i : Nat} (hi : 0 < i) : x.toBitVec.getLsbD i = false := by
  rcases h with rfl | rfl
  · simp
  · show (1#32).getLsbD i = false
    rw [BitVec.getLsbD_one]; simp; omega
def lowB (x : Int32) (k : Nat) : Prop := ∀ i, k ≤ i → x.toBitVec.getLsbD i = false
theorem or_low {x y : Int32} {k : Nat} (hk : k < 8) (hx : lowB x k) (hy : y = 0 ∨ y = 1) : lowB (x ||| (y <<< (nI k &&& 31))) (k + 1) := by
  intro i hi
  rw [Int32.toBitVec_or, BitVec.getLsbD_or, hx i (by omega), shl_bit y hk, BitVec.getLsbD_shiftLeft, bit_lsb hy (by omega)]
  simp
theorem xor_step {p q a c : Int32} {k : Nat} (hk : k < 8) (hp : lowB p k) (hq : lowB q k) (ha : a = 0 ∨ a = 1) (hc : c = 0 ∨ c = 1) : (p ||| (a <<< (nI k &&& 31))) ^^^ (q ||| (c <<< (nI k &&& 31))) = (p ^^^ q) ||| ((a ^^^ c) <<< (nI k &&& 31)) := by
  apply Int32.toBitVec_inj.mp
  apply BitVec.eq_of_getLsbD_eq
  intro i hi
  rw [Int32.toBitVec_xor, BitVec.getLsbD_xor, Int32.toBitVec_or, BitVec.getLsbD_or, Int32.toBitVec_or, BitVec.getLsbD_or, Int32.toBitVec_or, BitVec.getLsbD_or, Int32.toBitVec_xor, BitVec.getLsbD_xor, shl_bit a hk, shl_bit c hk, shl_bit _ hk, BitVec.getLsbD_shiftLeft, BitVec.getLsbD_shiftLeft, BitVec.getLsbD_shiftLeft, Int32.toBitVec_xor, BitVec.getLsbD_xor]
  by_cases h : i < k
  · simp [h]
  · rw [hp i (by omega), hq i (by omega)]
    simp [h, hi]
theorem nb_low {bt : Nat → Int32} (fr : Nat) : ∀ k, k ≤ 8 → (∀ i, i < k → bt (fr + i) = 0 ∨ bt (fr + i) = 1) → lowB (nbF bt fr k) k := by
  intro k
  induction k with
  | zero => intro _ _ i _; show (0#32).getLsbD i = false; simp
  | succ k ih => intro hk h; exact or_low (by omega) (ih (by omega) (fun i hi => h i (by omega))) (h k (by omega))
theorem sb_low (st : Int32) : ∀ k, k ≤ 8 → lowB (sbF st k) k := by
  intro k
  induction k with
  | zero => intro _ i _; show (0#32).getLsbD i = false; simp
  | succ k ih => intro hk; exact or_low (by omega) (ih (by omega)) (scF_bit _)
theorem tie_gx {bt : Nat → Int32} (sv : Int32) (b : Nat) : ∀ k, k ≤ 8 → (∀ i, i < k → bt (7 + 8 * b + i) = 0 ∨ bt (7 + 8 * b + i) = 1) → nbF bt (7 + 8 * b) k ^^^ sbF (scI sv (8 * b)) k = gxF bt sv b k := by
  intro k
  induction k with
  | zero => intro _ _; show nI 0 ^^^ nI 0 = nI 0; decide
  | succ k ih =>
    intro hk h
    show (nbF bt (7 + 8 * b) k ||| _) ^^^ (sbF (scI sv (8 * b)) k ||| _) = _
    rw [xor_step (by omega) (nb_low _ k (by omega) (fun i hi => h i (by omega))) (sb_low _ k (by omega)) (h k (by omega)) (scF_bit _), ih (by omega) (fun i hi => h i (by omega)), gxF_s, scI_add]
theorem gx_cg {f g : Nat → Int32} (sv : Int32) (b : Nat) : ∀ k, (∀ i, i < k → f (7 + 8 * b + i) = g (7 + 8 * b + i)) → gxF f sv b k = gxF g sv b k := by
  intro k
  induction k with
  | zero => intro _; rfl
  | succ k ih => intro h; rw [gxF_s, gxF_s, ih (fun i hi => h i (by omega)), h k (by omega)]
theorem fb_at (bt fo : Nat → Int32) (sv : Int32) : ∀ n b, b < n → fbF bt fo sv n b = nbF bt (7 + 8 * b) 8 ^^^ sbF (scI sv (8 * b)) 8 := by
  intro n
  induction n with
  | zero => intro b h; omega
  | succ n ih =>
    intro b h
    rw [fbF_s]
    by_cases e : b = n
    · subst e; exact pk_us
    · rw [pk_un e]; exact ih b (by omega)
theorem gt_at (bt fo : Nat → Int32) (sv : Int32) : ∀ n b, b < n → gtF bt sv fo n b = gxF bt sv b 8 := by
  intro n
  induction n with
  | zero => intro b h; omega
  | succ n ih =>
    intro b h
    rw [gtF_s]
    by_cases e : b = n
    · subst e; exact pk_us
    · rw [pk_un e]; exact ih b (by omega)
theorem tie_fb {bt bt' : Nat → Int32} (fo fo' : Nat → Int32) (sv : Int32) {n ct : Nat} (hc : 7 + 8 * n ≤ ct) (hb : ∀ i, i < ct → bt i = 0 ∨ bt i = 1) (he : ∀ i, i < ct → bt i = bt' i) : ∀ b, b < n → fbF bt fo sv n b = gtF bt' sv fo' n b := by
  intro b h
  rw [fb_at _ _ _ n b h, gt_at _ _ _ n b h, tie_gx sv b 8 (Nat.le_refl _) (fun i hi => hb _ (by omega))]
  exact gx_cg sv b 8 (fun i hi => he _ (by omega))
