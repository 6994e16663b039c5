/-! Ties: making a frame. -/
theorem zsh (y : Int32) : (nI 0 >>> y) &&& nI 1 = nI 0 := by
  apply Int32.toBitVec_inj.mp
  rw [Int32.toBitVec_and]
  show (BitVec.sshiftRight (0#32) _) &&& _ = _
  rw [BitVec.zero_sshiftRight]
  rfl
theorem alF_in (pl : Nat → Int32) (pn : Nat) (x : Int32) : ∀ k i, i < k → alF pl pn x k (pn + i) = (x >>> (nI i &&& 31)) &&& nI 1 := by
  intro k
  induction k with
  | zero => intro i h; omega
  | succ k ih =>
    intro i h
    show upd (alF pl pn x k) (pn + k) _ (pn + i) = _
    by_cases e : i = k
    · subst e; exact pk_us
    · rw [pk_un (by omega)]; exact ih i (by omega)
theorem alF_out (pl : Nat → Int32) (pn : Nat) (x : Int32) (j : Nat) : ∀ k, (j < pn ∨ pn + k ≤ j) → alF pl pn x k j = pl j := by
  intro k
  induction k with
  | zero => intro _; rfl
  | succ k ih =>
    intro h
    show upd (alF pl pn x k) (pn + k) _ j = _
    rw [pk_un (by omega)]; exact ih (by omega)
theorem wdF_lo (by_ pl : Nat → Int32) : ∀ k j, j < 7 → wdF by_ pl k j = nI 0 := by
  intro k
  induction k with
  | zero =>
    intro j h
    rw [wdF_0, show j = 0 + j by omega, alF_in pl 0 _ 7 j h]; exact zsh _
  | succ k ih => intro j h; rw [wdF_s, alF_out _ _ _ _ _ (Or.inl (by omega))]; exact ih j h
theorem wdF_in (by_ pl : Nat → Int32) : ∀ k b i, b < k → i < 8 → wdF by_ pl k (7 + 8 * b + i) = (by_ b >>> (nI i &&& 31)) &&& nI 1 := by
  intro k
  induction k with
  | zero => intro b i h; omega
  | succ k ih =>
    intro b i h hi
    rw [wdF_s]
    by_cases e : b = k
    · subst e; exact alF_in _ _ _ 8 i hi
    · rw [alF_out _ _ _ _ _ (Or.inl (by omega))]; exact ih b i (by omega) hi
theorem sdF_hi (sv : Int32) (tl : Nat) (pl : Nat → Int32) : ∀ k j, k ≤ j → sdF sv tl pl k j = pl j := by
  intro k
  induction k with
  | zero => intro j _; rfl
  | succ k ih => intro j h; show upd _ k _ j = _; rw [pk_un (by omega)]; exact ih j (by omega)
theorem sdF_all (sv : Int32) (tl : Nat) (pl : Nat → Int32) : ∀ k j, j < k → sdF sv tl pl k j = if tl ≤ j ∧ j < tl + 6 then nI 0 else pl j ^^^ scF (scI sv j) := by
  intro k
  induction k with
  | zero => intro j h; omega
  | succ k ih =>
    intro j h
    show upd (sdF sv tl pl k) k _ j = _
    by_cases e : j = k
    · subst e; rw [pk_us, sdF_hi sv tl pl j j (Nat.le_refl _)]
    · rw [pk_un e]; exact ih j (by omega)
theorem tzF_all (n : Nat) (f : Nat → Int32) (j : Nat) : ∀ k, tzF n f k j = if 7 + 8 * n ≤ j ∧ j < 7 + 8 * n + k then nI 0 else f j := by
  intro k
  induction k with
  | zero => rw [tzF_0, if_neg (by omega)]
  | succ k ih =>
    rw [tzF_s]
    by_cases e : j = 7 + 8 * n + k
    · subst e; rw [pk_us, if_pos (by omega)]
    · rw [pk_un e, ih]
      by_cases h : 7 + 8 * n ≤ j ∧ j < 7 + 8 * n + k
      · rw [if_pos h, if_pos (by omega)]
      · rw [if_neg h, if_neg (by omega)]
theorem tie_pl (by_ dpl df : Nat → Int32) (n : Nat) (sv : Int32) (N : Nat) (hN : 7 + 8 * n + 6 ≤ N) : ∀ j, j < N → sdF sv (7 + 8 * n) (alF (wdF by_ dpl n) (7 + 8 * n) (nI 0) (N - (7 + 8 * n))) N j = tzF n (gF (mdF by_ n sv) df N) 6 j := by
  intro j hj
  rw [sdF_all _ _ _ N j hj, tzF_all, gF_all _ _ N j hj]
  by_cases h : 7 + 8 * n ≤ j ∧ j < 7 + 8 * n + 6
  · rw [if_pos h, if_pos h]
  · rw [if_neg h, if_neg h]
    unfold mdF
    congr 1
    unfold mdB
    by_cases h7 : j < 7
    · rw [if_pos h7, alF_out _ _ _ _ _ (Or.inl (by omega))]
      exact wdF_lo by_ dpl n j h7
    · rw [if_neg h7]
      by_cases h8 : j - 7 < 8 * n
      · rw [if_pos h8, alF_out _ _ _ _ _ (Or.inl (by omega))]
        have e : j = 7 + 8 * ((j - 7) / 8) + (j - 7) % 8 := by omega
        have := wdF_in by_ dpl n ((j - 7) / 8) ((j - 7) % 8) (by omega) (by omega)
        rw [← e] at this
        exact this
      · rw [if_neg h8]
        have e : j = 7 + 8 * n + (j - (7 + 8 * n)) := by omega
        have := alF_in (wdF by_ dpl n) (7 + 8 * n) (nI 0) (N - (7 + 8 * n)) (j - (7 + 8 * n)) (by omega)
        rw [← e] at this
        rw [this]; exact zsh _
theorem sg_fin : ∀ r, r < 4 → ∀ n, n < 13 → ∀ j, j < 18 → sgF (fun _ => nI 0) r n j = sgB r n j := by decide +kernel
theorem sgF_any (pl : Nat → Int32) (r n j : Nat) (hj : j < 18) : sgF pl r n j = sgF (fun _ => nI 0) r n j := by
  unfold sgF
  by_cases h7 : 7 ≤ j
  · have e : j = 7 + (j - 7) := by omega
    rw [e, alF_in _ 7 _ 11 (j - 7) (by omega), alF_in _ 7 _ 11 (j - 7) (by omega)]
  · rw [alF_out _ 7 _ j 11 (Or.inl (by omega)), alF_out _ 7 _ j 11 (Or.inl (by omega))]
    by_cases h6 : j = 6
    · subst h6; rw [pk_us, pk_us]
    · rw [pk_un h6, pk_un h6]
      by_cases h2 : 2 ≤ j
      · have e : j = 2 + (j - 2) := by omega
        rw [e, alF_in _ 2 _ 4 (j - 2) (by omega), alF_in _ 2 _ 4 (j - 2) (by omega)]
      · rw [alF_out _ 2 _ j 4 (Or.inl (by omega)), alF_out _ 2 _ j 4 (Or.inl (by omega)), show j = 0 + j by omega, alF_in _ 0 _ 2 j (by omega), alF_in _ 0 _ 2 j (by omega)]
theorem tie_sig (spl df : Nat → Int32) (r n : Nat) (hr : r < 4) (hn : n < 13) : ∀ j, j < 18 → sgF spl r n j = gF (sgB r n) df 18 j := by
  intro j hj
  rw [gF_all _ _ 18 j hj, sgF_any spl r n j hj]
  exact sg_fin r hr n hn j hj
theorem sig_bit (df : Nat → Int32) (r n : Nat) : ∀ j, j < 18 → gF (sgB r n) df 18 j = 0 ∨ gF (sgB r n) df 18 j = 1 := by
  intro j hj
  rw [gF_all _ _ 18 j hj]
  unfold sgB sgV
  split
  · exact and1 _
  · split
    · exact and1 _
    · split
      · exact and1 _
      · exact Or.inl rfl
/-! the coder -/
def qbF (f : Nat → Int32) (k i : Nat) : Nat := if k < i then 0 else if f (k - i) = 0 then 0 else 1
theorem qbF_lt (f : Nat → Int32) (k i : Nat) : qbF f k i < 2 := by unfold qbF; split; decide; split <;> decide
theorem qbF_s (f : Nat → Int32) (k i : Nat) : qbF f (k + 1) (i + 1) = qbF f k i := by
  unfold qbF
  by_cases h : k < i
  · rw [if_pos h, if_pos (by omega)]
  · rw [if_neg h, if_neg (by omega), show k + 1 - (i + 1) = k - i by omega]
theorem qbF_pa {f : Nat → Int32} {k i n : Nat} (hk : k < n) (hf : ∀ j, j < n → f j = 0 ∨ f j = 1) : paF f k i = nI (qbF f k i) := by
  unfold paF qbF
  by_cases h : k < i
  · rw [if_pos h, if_pos h]; rfl
  · rw [if_neg h, if_neg h]
    rcases hf (k - i) (by omega) with e | e
    · rw [if_pos e, e]; rfl
    · rw [if_neg (by rw [e]; decide), e]; rfl
def w7 (a b c d e f g : Nat) : Nat := 64 * a + 32 * b + 16 * c + 8 * d + 4 * e + 2 * f + g
theorem w_step : ∀ w, w < 128 → ∀ b, b < 2 → (nI w >>> (nI 1 &&& 31)) ||| (nI b <<< (nI 6 &&& 31)) = nI (w / 2 + 64 * b) := by decide +kernel
theorem wn_w7 {f : Nat → Int32} {n : Nat} (hf : ∀ j, j < n → f j = 0 ∨ f j = 1) : ∀ k, k ≤ n → wnF f k = nI (w7 (qbF f k 1) (qbF f k 2) (qbF f k 3) (qbF f k 4) (qbF f k 5) (qbF f k 6) (qbF f k 7)) := by
  intro k
  induction k with
  | zero => intro _; rfl
  | succ k ih =>
    intro h
    show (wnF f k >>> (nI 1 &&& 31)) ||| (f k <<< (nI 6 &&& 31)) = _
    rw [ih (by omega), show f k = nI (qbF f k 0) from (qbF_pa (i := 0) (show k < n by omega) hf)]
    have h1 := qbF_lt f k 1
    have h2 := qbF_lt f k 2
    have h3 := qbF_lt f k 3
    have h4 := qbF_lt f k 4
    have h5 := qbF_lt f k 5
    have h6 := qbF_lt f k 6
    have h7 := qbF_lt f k 7
    rw [w_step _ (by unfold w7; omega) _ (qbF_lt f k 0)]
    rw [qbF_s, qbF_s, qbF_s, qbF_s, qbF_s, qbF_s, qbF_s]
    congr 1
    unfold w7
    omega
theorem coA' : ∀ w, w < 128 → coF (nI w) (nI 91) = (((nI (w / 64) ^^^ nI (w / 16 % 2)) ^^^ nI (w / 8 % 2)) ^^^ nI (w % 2)) ^^^ nI (w / 2 % 2) := by decide +kernel
theorem coB' : ∀ w, w < 128 → coF (nI w) (nI 121) = (((nI (w / 64) ^^^ nI (w / 16 % 2)) ^^^ nI (w / 8 % 2)) ^^^ nI (w % 2)) ^^^ nI (w / 32 % 2) := by decide +kernel
theorem w7x {a b c d e f g : Nat} (ha : a < 2) (hb : b < 2) (hc : c < 2) (hd : d < 2) (he : e < 2) (hf : f < 2) (hg : g < 2) : w7 a b c d e f g < 128 ∧ w7 a b c d e f g / 64 = a ∧ w7 a b c d e f g / 32 % 2 = b ∧ w7 a b c d e f g / 16 % 2 = c ∧ w7 a b c d e f g / 8 % 2 = d ∧ w7 a b c d e f g / 2 % 2 = f ∧ w7 a b c d e f g % 2 = g := by
  unfold w7; omega
theorem coA {a b c d e f g : Nat} (ha : a < 2) (hb : b < 2) (hc : c < 2) (hd : d < 2) (he : e < 2) (hf : f < 2) (hg : g < 2) : coF (nI (w7 a b c d e f g)) (nI 91) = (((nI a ^^^ nI c) ^^^ nI d) ^^^ nI g) ^^^ nI f := by
  obtain ⟨h0, h1, h2, h3, h4, h5, h6⟩ := w7x ha hb hc hd he hf hg
  rw [coA' _ h0, h1, h3, h4, h5, h6]
theorem coB {a b c d e f g : Nat} (ha : a < 2) (hb : b < 2) (hc : c < 2) (hd : d < 2) (he : e < 2) (hf : f < 2) (hg : g < 2) : coF (nI (w7 a b c d e f g)) (nI 121) = (((nI a ^^^ nI c) ^^^ nI d) ^^^ nI g) ^^^ nI b := by
  obtain ⟨h0, h1, h2, h3, h4, h5, h6⟩ := w7x ha hb hc hd he hf hg
  rw [coB' _ h0, h1, h2, h3, h4, h6]
theorem co_A {f : Nat → Int32} {n : Nat} (hf : ∀ j, j < n → f j = 0 ∨ f j = 1) {k : Nat} (hk : k < n) : coF (wnF f (k + 1)) (nI 91) = mcA f k := by
  rw [wn_w7 hf (k + 1) (by omega), coA (qbF_lt _ _ _) (qbF_lt _ _ _) (qbF_lt _ _ _) (qbF_lt _ _ _) (qbF_lt _ _ _) (qbF_lt _ _ _) (qbF_lt _ _ _)]
  unfold mcA mcX
  rw [qbF_pa hk hf, qbF_pa hk hf, qbF_pa hk hf, qbF_pa hk hf, show f k = nI (qbF f k 0) from (qbF_pa (i := 0) hk hf), qbF_s, qbF_s, qbF_s, qbF_s, qbF_s]
theorem co_B {f : Nat → Int32} {n : Nat} (hf : ∀ j, j < n → f j = 0 ∨ f j = 1) {k : Nat} (hk : k < n) : coF (wnF f (k + 1)) (nI 121) = mcB f k := by
  rw [wn_w7 hf (k + 1) (by omega), coB (qbF_lt _ _ _) (qbF_lt _ _ _) (qbF_lt _ _ _) (qbF_lt _ _ _) (qbF_lt _ _ _) (qbF_lt _ _ _) (qbF_lt _ _ _)]
  unfold mcB mcX
  rw [qbF_pa hk hf, qbF_pa hk hf, qbF_pa hk hf, qbF_pa hk hf, show f k = nI (qbF f k 0) from (qbF_pa (i := 0) hk hf), qbF_s, qbF_s, qbF_s, qbF_s, qbF_s]
theorem wn_cg {f g : Nat → Int32} : ∀ k, (∀ j, j < k → f j = g j) → wnF f k = wnF g k := by
  intro k
  induction k with
  | zero => intro _; rfl
  | succ k ih =>
    intro h
    show (wnF f k >>> (nI 1 &&& 31)) ||| (f k <<< (nI 6 &&& 31)) = (wnF g k >>> (nI 1 &&& 31)) ||| (g k <<< (nI 6 &&& 31))
    rw [ih (fun j hj => h j (by omega)), h k (by omega)]
theorem upd_at {f g : Nat → Int32} {k j : Nat} {x : Int32} (h : j ≠ k → f j = g j) : upd f k x j = upd g k x j := by
  by_cases e : j = k
  · subst e; rw [pk_us, pk_us]
  · rw [pk_un e, pk_un e]; exact h e
theorem tie_cd (th : Int32) {pl da co co' : Nat → Int32} {n : Nat} (hd : ∀ j, j < n → pl j = da j) (hf : ∀ j, j < n → da j = 0 ∨ da j = 1) : ∀ k, k ≤ n → ∀ j, j < cnt th k → cdF th pl co k j = cdG th (mcA da) (mcB da) co' k j := by
  intro k
  induction k with
  | zero => intro _ j hj; exact absurd hj (Nat.not_lt_zero _)
  | succ k ih =>
    intro hk j hj
    have ew : wnF pl (k + 1) = wnF da (k + 1) := wn_cg (k + 1) (fun j hj => hd j (by omega))
    have eA := co_A hf (k := k) (by omega)
    have eB := co_B hf (k := k) (by omega)
    by_cases a : kpA th k = 0 <;> by_cases b : kpB th k = 0
    · rw [cn00 a b] at hj; rw [cd00 pl co a b, cg00 _ _ co' a b]; exact ih (by omega) j hj
    · rw [cn01 a b] at hj; rw [cd01 pl co a b, cg01 _ _ co' a b, ew, eB]; exact upd_at (fun e => ih (by omega) j (by omega))
    · rw [cn10 a b] at hj; rw [cd10 pl co a b, cg10 _ _ co' a b, ew, eA]; exact upd_at (fun e => ih (by omega) j (by omega))
    · rw [cn11 a b] at hj; rw [cd11 pl co a b, cg11 _ _ co' a b, ew, eA, eB]; exact upd_at (fun e => upd_at (fun e2 => ih (by omega) j (by omega)))
/-! interleaving -/
theorem ilK_cg (n m : Nat) {co co' : Nat → Int32} (b : Nat) (pd pd' : Nat → Int32) (q : Nat) : ∀ k, (∀ i, i < k → co (n * b + i) = co' (n * b + i)) → (∃ i, i < k ∧ placeN i m = q) → ilK n m co b pd k (n * b + q) = ilK n m co' b pd' k (n * b + q) := by
  intro k
  induction k with
  | zero => rintro _ ⟨i, hi, _⟩; omega
  | succ k ih =>
    rintro hc ⟨i, hi, e⟩
    rw [ilK_s, ilK_s, hc k (by omega)]
    refine upd_at (fun hne => ih (fun i hi => hc i (by omega)) ⟨i, ?_, e⟩)
    rcases Nat.lt_or_eq_of_le (Nat.le_of_lt_succ hi) with h1 | h1
    · exact h1
    · subst h1; exact absurd (by rw [e]) hne
theorem ilB_cg (n m : Nat) {co co' pd pd' : Nat → Int32} (hs : ∀ q, q < n → ∃ i, i < n ∧ placeN i m = q) : ∀ b, (∀ j, j < n * b → co j = co' j) → ∀ j, j < n * b → ilB n m co pd b j = ilB n m co' pd' b j := by
  intro b
  induction b with
  | zero => intro _ j hj; rw [Nat.mul_zero] at hj; omega
  | succ b ih =>
    intro hc j hj
    rw [Nat.mul_succ] at hj
    rw [ilB_s, ilB_s]
    by_cases h : j < n * b
    · rw [ilK_low n m co b _ n j h, ilK_low n m co' b _ n j h]
      exact ih (fun j hj => hc j (by rw [Nat.mul_succ]; omega)) j h
    · have := ilK_cg n m b (ilB n m co pd b) (ilB n m co' pd' b) (j - n * b) n (fun i hi => hc _ (by rw [Nat.mul_succ]; omega)) (hs _ (by omega))
      rw [show n * b + (j - n * b) = j by omega] at this
      exact this
theorem ilB_cut (n m : Nat) (co pd : Nat → Int32) (b j : Nat) (hj : j < n * b) : ∀ d, ilB n m co pd (b + d) j = ilB n m co pd b j := by
  intro d
  induction d with
  | zero => rfl
  | succ d ih =>
    rw [← Nat.add_assoc, ilB_s, ilK_low n m co (b + d) _ n j (Nat.lt_of_lt_of_le hj (Nat.mul_le_mul_left n (Nat.le_add_right b d)))]
    exact ih
/-! mapping -/
theorem upd_self (f : Nat → Int32) (k : Nat) : upd f k (f k) = f := by
  funext j
  by_cases e : j = k
  · subst e; exact pk_us
  · exact pk_un e
theorem m1_eq {b : Int32} (h : b = 0 ∨ b = 1) : m1V b = mv1 b := by rcases h with rfl | rfl <;> decide
theorem m2_eq {b : Int32} (h : b = 0 ∨ b = 1) : m2V b = mv2 b := by rcases h with rfl | rfl <;> decide
abbrev zz0 : RP := (fun _ => nI 0, fun _ => nI 0)
theorem mp_eq1 (pd pd' : Nat → Int32) (base : Nat) (hp : ∀ i, i < 12 * 1 → pd (base + i) = pd' (base + i)) (hb : ∀ i, i < 12 * 1 → pd' (base + i) = 0 ∨ pd' (base + i) = 1) : ∀ j, j ≤ 12 → mpJ mo1 1 pd base j zz0 = mpJ mr1 1 pd' base j zz0 ∧ (mpJ mr1 1 pd' base j zz0).2 = fun _ => nI 0 := by
  intro j
  induction j with
  | zero => intro _; exact ⟨rfl, rfl⟩
  | succ j ih =>
    intro h
    obtain ⟨h1, h2⟩ := ih (by omega)
    rw [mpJ_s, mpJ_s, h1]
    generalize mpJ mr1 1 pd' base j zz0 = X at h2 ⊢
    unfold mo1 mr1
    rw [h2]
    have e : upd (fun _ => nI 0) (codN j) (nI 0) = fun _ => nI 0 := upd_self (fun _ => nI 0) (codN j)
    rw [e, hp _ (by omega), m1_eq (hb _ (by omega))]
    exact ⟨rfl, rfl⟩
theorem mp_eq2 (pd pd' : Nat → Int32) (base : Nat) (hp : ∀ i, i < 12 * 2 → pd (base + i) = pd' (base + i)) (hb : ∀ i, i < 12 * 2 → pd' (base + i) = 0 ∨ pd' (base + i) = 1) : ∀ j, j ≤ 12 → mpJ mo2 2 pd base j zz0 = mpJ mr2 2 pd' base j zz0 := by
  intro j
  induction j with
  | zero => intro _; rfl
  | succ j ih =>
    intro h
    rw [mpJ_s, mpJ_s, ih (by omega)]
    generalize mpJ mr2 2 pd' base j zz0 = X
    unfold mo2 mr2
    rw [hp _ (by omega), Nat.add_assoc, hp _ (by omega), m2_eq (hb _ (by omega)), m2_eq (hb _ (by omega))]
theorem mp_eq4 (pd pd' : Nat → Int32) (base : Nat) (hp : ∀ i, i < 12 * 4 → pd (base + i) = pd' (base + i)) (hb : ∀ i, i < 12 * 4 → pd' (base + i) = 0 ∨ pd' (base + i) = 1) : ∀ j, j ≤ 12 → mpJ mo4 4 pd base j zz0 = mpJ mo4 4 pd' base j zz0 := by
  intro j
  induction j with
  | zero => intro _; rfl
  | succ j ih =>
    intro h
    rw [mpJ_s, mpJ_s, ih (by omega)]
    generalize mpJ mo4 4 pd' base j zz0 = X
    unfold mo4
    rw [Nat.add_assoc, Nat.add_assoc, Nat.add_assoc, hp _ (by omega), hp _ (by omega), hp _ (by omega), hp _ (by omega)]
def mpOK (mo mr : (Nat → Int32) → Nat → Nat → RP → RP) (m : Nat) : Prop := ∀ (pd pd' : Nat → Int32) (base : Nat), (∀ i, i < 12 * m → pd (base + i) = pd' (base + i)) → (∀ i, i < 12 * m → pd' (base + i) = 0 ∨ pd' (base + i) = 1) → mpJ mo m pd base 12 zz0 = mpJ mr m pd' base 12 zz0
theorem mpOK1 : mpOK mo1 mr1 1 := fun pd pd' base hp hb => (mp_eq1 pd pd' base hp hb 12 (Nat.le_refl _)).1
theorem mpOK2 : mpOK mo2 mr2 2 := fun pd pd' base hp hb => mp_eq2 pd pd' base hp hb 12 (Nat.le_refl _)
theorem mpOK4 : mpOK mo4 mo4 4 := fun pd pd' base hp hb => mp_eq4 pd pd' base hp hb 12 (Nat.le_refl _)
theorem tie_sy {mo mr : (Nat → Int32) → Nat → Nat → RP → RP} {m : Nat} (hm : mpOK mo mr m) {pd co' pd' : Nat → Int32} (nsy b : Nat) (hp : ∀ i, i < 12 * m → pd (12 * m * b + i) = ilB (12 * m) m co' pd' (b + 1) (12 * m * b + i)) (hb : ∀ i, i < 12 * m → ilB (12 * m) m co' pd' (b + 1) (12 * m * b + i) = 0 ∨ ilB (12 * m) m co' pd' (b + 1) (12 * m * b + i) = 1) : syP mo m (12 * m) pd (scI (nI 127) nsy) b = syM mr m (12 * m) nsy co' pd' b := by
  unfold syP syM
  rw [hm _ _ _ hp hb, tie_tr]
  unfold ppF ppM
  rw [scI_add, pvM_s]
/-! appending -/
theorem apM_add (fc : Nat) (x : Nat → Int32) (first : Nat) (f : Nat → Int32) (a : Nat) : ∀ b, apM fc x first f (a + b) = apM (fc + a) x (first + a) (apM fc x first f a) b := by
  intro b
  induction b with
  | zero => rfl
  | succ b ih => rw [← Nat.add_assoc, apM_s, apM_s, ih, Nat.add_assoc, Nat.add_assoc]
theorem apM_F (fc : Nat) (x : Nat → Int32) (first first' : Nat) (f : Nat → Int32) : ∀ k, (∀ i, i < k → (first + i) % 16 = first' + i) → apM fc x first f k = apF fc x first' f k := by
  intro k
  induction k with
  | zero => intro _; rfl
  | succ k ih => intro h; rw [apM_s, apF_s, ih (fun i hi => h i (by omega)), h k (by omega)]
theorem ap20 (fc : Nat) (x f : Nat → Int32) : apF (fc + 4) x 0 (apF fc x 12 f 4) 16 = apM fc x 12 f 20 := by
  rw [show (20 : Nat) = 4 + 16 from rfl, apM_add, apM_F fc x 12 12 f 4 (fun i hi => by omega), apM_F (fc + 4) x (12 + 4) 0 _ 16 (fun i hi => by omega)]
theorem ap40 (x f : Nat → Int32) : apF (0 + 8 + 16) x 0 (apF (0 + 8) x 0 (apF 0 x 8 f 8) 16) 16 = apM 0 x 8 f 40 := by
  rw [show (40 : Nat) = 8 + 16 + 16 from rfl, apM_add, apM_add, apM_F 0 x 8 8 f 8 (fun i hi => by omega), apM_F (0 + 8) x (8 + 8) 0 _ 16 (fun i hi => by omega), apM_F _ x _ 0 _ 16 (fun i hi => by omega)]
theorem tie_at (tx w : RP) : atP 0 tx w = (apM 0 tx.1 8 w.1 40, apM 0 tx.2 8 w.2 40) := by
  unfold atP
  rw [ap40, ap40]
theorem tie_fw (fc : Nat) {sy sy' : Nat → RP} (w : RP) : ∀ S, (∀ b, b < S → sy b = sy' b) → fwP fc sy w S = fwM fc sy' w S := by
  intro S
  induction S with
  | zero => intro _; rfl
  | succ S ih =>
    intro h
    show (_, _) = (_, _)
    rw [ap20, ap20, h S (by omega), ih (fun b hb => h b (by omega))]
