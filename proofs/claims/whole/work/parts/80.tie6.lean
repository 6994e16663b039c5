/-! Ties: the paths. -/
theorem skA_cg (th : Int32) {f g : Nat → Int32} {k n : Nat} (hk : k < n) (h : ∀ v, v < cnt th n → f v = g v) : skA th f k = skA th g k := by
  unfold skA
  by_cases a : kpA th k = 0
  · rw [if_pos a, if_pos a]
  · rw [if_neg a, if_neg a]
    have := cl1 hk a
    exact h _ (by omega)
theorem skB_cg (th : Int32) {f g : Nat → Int32} {k n : Nat} (hk : k < n) (h : ∀ v, v < cnt th n → f v = g v) : skB th f k = skB th g k := by
  unfold skB
  by_cases b : kpB th k = 0
  · rw [if_pos b, if_pos b]
  · rw [if_neg b, if_neg b]
    have := cnt_lt th hk
    rw [if_neg b] at this
    exact h _ (by omega)
theorem ms_tab : ∀ i, i < 64 → ∀ j, j < 2 → (outN (i * 2 + j) = 0 ∧ msA i j = nI 0 ∧ msB i j = nI 0) ∨ (outN (i * 2 + j) = 1 ∧ msA i j = nI 0 ∧ msB i j = nI 1) ∨ (outN (i * 2 + j) = 2 ∧ msA i j = nI 1 ∧ msB i j = nI 0) ∨ (outN (i * 2 + j) = 3 ∧ msA i j = nI 1 ∧ msB i j = nI 1) := by decide +kernel
theorem gn_al {i j : Nat} (hi : i < 64) (hj : j < 2) (a b : Int32) : gn4 a b (outN (i * 2 + j)) = alM (msA i j) a + alM (msB i j) b := by
  have e1 : alM (nI 1) = fun v => v := by funext v; exact if_pos rfl
  have e0 : alM (nI 0) = fun v => -v := by funext v; exact if_neg (by decide)
  rcases ms_tab i hi j hj with ⟨h, h1, h2⟩ | ⟨h, h1, h2⟩ | ⟨h, h1, h2⟩ | ⟨h, h1, h2⟩ <;> rw [h, h1, h2]
  · rw [e0]; show -a - b = -a + -b; exact Int32.sub_eq_add_neg _ _
  · rw [e0, e1]; show b - a = -a + b; rw [Int32.sub_eq_add_neg, Int32.add_comm]
  · rw [e0, e1]; show a - b = a + -b; exact Int32.sub_eq_add_neg _ _
  · rw [e1]; rfl
theorem stM_N {mf mf' : Nat → Int32} {sa sb : Nat → Int32} {k i : Nat} (hi : i < 64) (h : ∀ j, j < 64 → mf j = mf' j) : stM mf (sa k) (sb k) i = stN mf' sa sb k i 0 := by
  show mf (i % 32 * 2) + gn4 (sa k) (sb k) (outN (i * 2)) = _
  unfold stN
  have := gn_al (j := 0) hi (by decide) (sa k) (sb k)
  rw [Nat.add_zero] at this
  rw [this, Nat.add_zero, h _ (by omega), Int32.add_assoc]
theorem stO_N {mf mf' : Nat → Int32} {sa sb : Nat → Int32} {k i : Nat} (hi : i < 64) (h : ∀ j, j < 64 → mf j = mf' j) : stO mf (sa k) (sb k) i = stN mf' sa sb k i 1 := by
  unfold stO stN
  rw [gn_al (j := 1) hi (by decide) (sa k) (sb k), h _ (by omega), Int32.add_assoc]
theorem tie_vt (A B sa sb : Nat → Int32) : ∀ k, (∀ j, j < k → A j = sa j) → (∀ j, j < k → B j = sb j) → ∀ i, i < 64 → vtM A B k i = vmM sa sb k i := by
  intro k
  induction k with
  | zero =>
    intro _ _ i _
    rw [vtM_0, vmM_0]
    unfold m0F m0V
    by_cases e : i = 0
    · subst e; rw [pk_us, if_pos rfl]
    · rw [pk_un e, if_neg e]
  | succ k ih =>
    intro hA hB i hi
    have h := ih (fun j hj => hA j (by omega)) (fun j hj => hB j (by omega))
    rw [vtM_s, vmM_s]
    unfold vtS vsM
    rw [hA k (by omega), hB k (by omega), stM_N hi h, stO_N hi h]
theorem fgF_cg {f g : Nat → Int32} : ∀ k, k ≤ 64 → (∀ i, i < 64 → f i = g i) → fgF f k = fgF g k := by
  intro k
  induction k with
  | zero => intro _ _; rfl
  | succ k ih =>
    intro hk h
    have e := ih (by omega) h
    have h2 : fgF g k < 64 := by have := (fgF_lt g k).1; omega
    by_cases a : g k ≤ g (fgF g k)
    · rw [fgF_t a, fgF_t (by rw [e, h k (by omega), h _ h2]; exact a), e]
    · rw [fgF_f a, fgF_f (by rw [e, h k (by omega), h _ h2]; exact a)]
/-! the choices -/
theorem sh1 : ∀ i, i < 64 → ((1 : Int64) <<< ((nI i).toInt64 &&& 63)).toBitVec = 1#64 <<< i := by decide +kernel
theorem shr_n : ∀ i, i < 64 → ((((nI i).toInt64 &&& 63).toBitVec.smod 64).toNat) = i := by decide +kernel
theorem ch_bit (mf : Nat → Int32) (a b : Int32) : ∀ i, i ≤ 64 → ∀ n, n < 64 → (chF mf a b i).toBitVec.getLsbD n = decide (n < i ∧ ¬ stO mf a b n ≤ stM mf a b n) := by
  intro i
  induction i with
  | zero =>
    intro _ n _
    show (0 : Int64).toBitVec.getLsbD n = _
    simp
  | succ i ih =>
    intro hi n hn
    have h := ih (by omega) n hn
    by_cases c : stO mf a b i ≤ stM mf a b i
    · rw [chF_t c, h]
      congr 1
      apply propext
      constructor
      · rintro ⟨h1, h2⟩; exact ⟨by omega, h2⟩
      · rintro ⟨h1, h2⟩
        refine ⟨?_, h2⟩
        rcases Nat.lt_or_eq_of_le (Nat.le_of_lt_succ h1) with h3 | h3
        · exact h3
        · subst h3; exact absurd c h2
    · rw [chF_f c, Int64.toBitVec_or, BitVec.getLsbD_or, h, sh1 i (by omega), BitVec.getLsbD_shiftLeft]
      by_cases e : n = i
      · subst e
        simp [hn, c]
      · have e3 : (1#64).getLsbD (n - i) = true ↔ n - i = 0 := by
          constructor
          · intro q
            by_cases z : n - i = 0
            · exact z
            · rw [BitVec.getLsbD_one] at q; simp at q; omega
          · intro q; rw [q]; rfl
        by_cases l : n < i
        · simp [l, hn, Nat.lt_succ_of_lt l]
        · have : (1#64).getLsbD (n - i) = false := by
            cases hq : (1#64).getLsbD (n - i)
            · rfl
            · exact absurd (e3.mp hq) (by omega)
          rw [this]
          have l2 : ¬ n < i + 1 := by omega
          simp [l, l2]
theorem cb_bit (c : Int64) {n : Nat} (hn : n < 64) : cbN c n = if c.toBitVec.getLsbD n = true then 1 else 0 := by
  unfold cbN cbV
  have e : ((c >>> ((nI n).toInt64 &&& 63)) &&& 1).toBitVec.getLsbD 0 = c.toBitVec.getLsbD n := by
    rw [Int64.toBitVec_and, BitVec.getLsbD_and]
    show ((BitVec.sshiftRight c.toBitVec ((((nI n).toInt64 &&& 63).toBitVec.smod 64).toNat)).getLsbD 0 && (1 : Int64).toBitVec.getLsbD 0) = _
    rw [shr_n n hn, BitVec.getLsbD_sshiftRight]
    simp [hn]
  rcases and1L (c >>> ((nI n).toInt64 &&& 63)) with h | h
  · rw [if_pos h]
    rw [h] at e
    rw [← e]; rfl
  · rw [if_neg (by rw [h]; decide)]
    rw [h] at e
    rw [← e]; rfl
theorem ch_cb (mf : Nat → Int32) (a b : Int32) {n : Nat} (hn : n < 64) : cbN (chF mf a b 64) n = if stO mf a b n ≤ stM mf a b n then 0 else 1 := by
  rw [cb_bit _ hn, ch_bit mf a b 64 (Nat.le_refl _) n hn]
  by_cases h : stO mf a b n ≤ stM mf a b n
  · rw [if_pos h, if_neg (by simp [h])]
  · rw [if_neg h, if_pos (by simp [h, hn])]
theorem vc_at (A B : Nat → Int32) (cf : Nat → Int64) : ∀ k j, j < k → vcF A B cf k j = chF (vtM A B j) (A j) (B j) 64 := by
  intro k
  induction k with
  | zero => intro j h; omega
  | succ k ih =>
    intro j h
    rw [vcF_s]
    by_cases e : j = k
    · subst e; exact pk_uLs
    · rw [pk_uLn e]; exact ih j (by omega)
theorem odI_in (mf sa sb : Nat → Int32) (k : Nat) (o : Nat → Int32) : ∀ i n, n < i → odI mf sa sb k o i (64 * k + n) = if stN mf sa sb k n 1 ≤ stN mf sa sb k n 0 then nI 0 else nI 1 := by
  intro i
  induction i with
  | zero => intro n h; omega
  | succ i ih =>
    intro n h
    show upd (odI mf sa sb k o i) (64 * k + i) _ (64 * k + n) = _
    by_cases e : n = i
    · subst e; exact pk_us
    · rw [pk_un (by omega)]; exact ih n (by omega)
theorem odI_lo (mf sa sb : Nat → Int32) (k : Nat) (o : Nat → Int32) (j : Nat) (hj : j < 64 * k) : ∀ i, odI mf sa sb k o i j = o j := by
  intro i
  induction i with
  | zero => rfl
  | succ i ih => show upd (odI mf sa sb k o i) (64 * k + i) _ j = _; rw [pk_un (by omega)]; exact ih
theorem od_at (sa sb o : Nat → Int32) : ∀ k j n, j < k → n < 64 → odM sa sb o k (64 * j + n) = if stN (vmM sa sb j) sa sb j n 1 ≤ stN (vmM sa sb j) sa sb j n 0 then nI 0 else nI 1 := by
  intro k
  induction k with
  | zero => intro j n h; omega
  | succ k ih =>
    intro j n h hn
    rw [odM_s]
    by_cases e : j = k
    · subst e; exact odI_in _ _ _ _ _ 64 n hn
    · rw [odI_lo _ _ _ _ _ _ (by omega)]; exact ih j n (by omega) hn
theorem tie_ch (A B sa sb o : Nat → Int32) (cf : Nat → Int64) (k : Nat) (hA : ∀ j, j < k → A j = sa j) (hB : ∀ j, j < k → B j = sb j) : ∀ j, j < k → ∀ n, n < 64 → cbN (vcF A B cf k j) n = obN (odM sa sb o k) j n := by
  intro j hj n hn
  rw [vc_at A B cf k j hj, ch_cb _ _ _ hn]
  unfold obN
  rw [od_at sa sb o k j n hj hn, hA j hj, hB j hj]
  have h := tie_vt A B sa sb j (fun i hi => hA i (by omega)) (fun i hi => hB i (by omega))
  rw [stO_N hn h, stM_N hn h]
  by_cases c : stN (vmM sa sb j) sa sb j n 1 ≤ stN (vmM sa sb j) sa sb j n 0
  · rw [if_pos c, if_pos c]; rfl
  · rw [if_neg c, if_neg c]; rfl
theorem gb_eq (cf : Nat → Int64) (o : Nat → Int32) : ∀ j nd (bf bf' : Nat → Int32), nd < 64 → (∀ i, i < j → ∀ n, n < 64 → cbN (cf i) n = obN o i n) → ∀ i, (¬ i < j → bf i = bf' i) → gbF cf j nd bf i = gbM o j nd bf' i := by
  intro j
  induction j with
  | zero => intro nd bf bf' _ _ i h; exact h (by omega)
  | succ j ih =>
    intro nd bf bf' hnd hc i h
    rw [gbF_s, gbM_s, hc j (by omega) nd hnd]
    have := ob_lt o j nd
    exact ih _ _ _ (by omega) (fun i hi => hc i (by omega)) i (fun hn => upd_at (fun e => h (by omega)))
theorem gbV_bit : ∀ nd, nd < 64 → gbV nd = 0 ∨ gbV nd = 1 := by decide +kernel
theorem gb_bit (o : Nat → Int32) : ∀ j nd (bf : Nat → Int32), nd < 64 → ∀ i, (¬ i < j → bf i = 0 ∨ bf i = 1) → gbM o j nd bf i = 0 ∨ gbM o j nd bf i = 1 := by
  intro j
  induction j with
  | zero => intro nd bf _ i h; exact h (by omega)
  | succ j ih =>
    intro nd bf hnd i h
    rw [gbM_s]
    have := ob_lt o j nd
    exact ih _ _ (by omega) i (fun hn => upd_bit (fun e => h (by omega)) (gbV_bit nd hnd))
/-- decoding: bits and the greatest metric -/
theorem tie_dc (th : Int32) (sf va sa sb o bf bf' : Nat → Int32) (cf : Nat → Int64) (ct : Nat) (hv : ∀ v, v < cnt th ct → sf v = va v) (ha : ∀ k, k < ct → sa k = skA th va k) (hb : ∀ k, k < ct → sb k = skB th va k) :
    (∀ i, i < ct → dcB th sf ct cf bf i = gbM (odM sa sb o ct) ct (fgF (vmM sa sb ct) 64) bf' i) ∧ dcM th sf ct = vmM sa sb ct (fgF (vmM sa sb ct) 64) ∧ (∀ i, i < ct → dcB th sf ct cf bf i = 0 ∨ dcB th sf ct cf bf i = 1) := by
  have hA : ∀ j, j < ct → skA th sf j = sa j := fun j hj => (skA_cg th hj hv).trans (ha j hj).symm
  have hB : ∀ j, j < ct → skB th sf j = sb j := fun j hj => (skB_cg th hj hv).trans (hb j hj).symm
  have h := tie_vt _ _ sa sb ct hA hB
  have e : fgF (vtM (skA th sf) (skB th sf) ct) 64 = fgF (vmM sa sb ct) 64 := fgF_cg 64 (Nat.le_refl _) h
  have l : fgF (vmM sa sb ct) 64 < 64 := (fgF_lt _ 64).2 (by decide)
  have key : ∀ i, i < ct → dcB th sf ct cf bf i = gbM (odM sa sb o ct) ct (fgF (vmM sa sb ct) 64) bf' i := by
    intro i hi
    unfold dcB
    rw [e]
    exact gb_eq _ _ ct _ bf bf' l (tie_ch _ _ sa sb o cf ct hA hB) i (fun q => absurd hi q)
  refine ⟨key, ?_, fun i hi => ?_⟩
  · unfold dcM
    rw [e]; exact h _ l
  · rw [key i hi]; exact gb_bit _ ct _ bf' l i (fun q => absurd hi q)
