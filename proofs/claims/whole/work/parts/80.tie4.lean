/-! Ties: a whole frame. -/
theorem ilB_bit (n m : Nat) {co pd : Nat → Int32} (hs : ∀ q, q < n → ∃ i, i < n ∧ placeN i m = q) (b : Nat) (hb : ∀ j, j < n * b → co j = 0 ∨ co j = 1) : ∀ j, j < n * b → ilB n m co pd b j = 0 ∨ ilB n m co pd b j = 1 := by
  intro j hj
  obtain ⟨i, h1, h2⟩ := ilB_some n m co pd hs b j hj
  rw [h2]; exact hb i h1
/-- the symbols of one row of bits -/
theorem tie_sym {mo mr : (Nat → Int32) → Nat → Nat → RP → RP} {m n : Nat} (hn : n = 12 * m) (hm : mpOK mo mr m) (hs : ∀ q, q < n → ∃ i, i < n ∧ placeN i m = q) (S nsy : Nat) {co co' pd pd' : Nat → Int32} (hc : ∀ j, j < n * S → co j = co' j) (hb : ∀ j, j < n * S → co' j = 0 ∨ co' j = 1) : ∀ b, b < S → syP mo m n (ilB n m co pd S) (scI (nI 127) nsy) b = syM mr m n nsy co' pd' b := by
  intro b h
  subst hn
  have hS : 12 * m * (b + 1) ≤ 12 * m * S := Nat.mul_le_mul_left _ h
  have hb' : 12 * m * (b + 1) = 12 * m * b + 12 * m := Nat.mul_succ _ _
  refine tie_sy hm nsy b (fun i hi => ?_) (fun i hi => ?_)
  · have e : S = b + 1 + (S - (b + 1)) := by omega
    have e2 := ilB_cut (12 * m) m co pd (b + 1) (12 * m * b + i) (by omega) (S - (b + 1))
    rw [← e] at e2
    rw [e2]
    exact ilB_cg (12 * m) m hs (b + 1) (fun j hj => hc j (by omega)) _ (by omega)
  · exact ilB_bit (12 * m) m hs (b + 1) (fun j hj => hb j (by omega)) _ (by omega)
abbrev PLs (by_ dpl : Nat → Int32) (n : Nat) (sv : Int32) (N : Nat) : Nat → Int32 := sdF sv (7 + 8 * n) (alF (wdF by_ dpl n) (7 + 8 * n) (nI 0) (N - (7 + 8 * n))) N
abbrev DAs (by_ df : Nat → Int32) (n : Nat) (sv : Int32) (N : Nat) : Nat → Int32 := tzF n (gF (mdF by_ n sv) df N) 6
theorem ts_co (th : Int32) (by_ dpl df dco co : Nat → Int32) (n : Nat) (sv : Int32) (N : Nat) (hN : 7 + 8 * n + 6 ≤ N) : ∀ j, j < cnt th N → cdF th (PLs by_ dpl n sv N) dco N j = cdG th (mcA (DAs by_ df n sv N)) (mcB (DAs by_ df n sv N)) co N j :=
  tie_cd th (tie_pl by_ dpl df n sv N hN) (dat_bit by_ df n sv N) N (Nat.le_refl _)
theorem ts_cb (th : Int32) (by_ df co : Nat → Int32) (n : Nat) (sv : Int32) (N : Nat) : ∀ j, j < cnt th N → cdG th (mcA (DAs by_ df n sv N)) (mcB (DAs by_ df n sv N)) co N j = 0 ∨ cdG th (mcA (DAs by_ df n sv N)) (mcB (DAs by_ df n sv N)) co N j = 1 :=
  fun j hj => cdG_bit th _ _ co N (mcA_bit (dat_bit by_ df n sv N)) (mcB_bit (dat_bit by_ df n sv N)) N j (Nat.le_refl _) hj
theorem ts_pd (th : Int32) (by_ dpl df dco co dpd pd : Nat → Int32) (n : Nat) (sv : Int32) (N k m S : Nat) (hN : 7 + 8 * n + 6 ≤ N) (hc : cnt th N = k * S) (hs : ∀ q, q < k → ∃ i, i < k ∧ placeN i m = q) : ∀ j, j < cnt th N → ilB k m (cdF th (PLs by_ dpl n sv N) dco N) dpd S j = ilB k m (cdG th (mcA (DAs by_ df n sv N)) (mcB (DAs by_ df n sv N)) co N) pd S j := by
  intro j hj
  exact ilB_cg k m hs S (fun j hj => ts_co th by_ dpl df dco co n sv N hN j (by omega)) j (by omega)
theorem ts_sco (spl df sco co : Nat → Int32) (r n : Nat) (hr : r < 4) (hn : n < 13) : ∀ j, j < 12 * 3 → cdF (thN 0) (sgF spl r n) sco 18 j = cdG (nI 0) (mcA (gF (sgB r n) df 18)) (mcB (gF (sgB r n) df 18)) co 18 j := by
  intro j hj
  exact tie_cd (nI 0) (tie_sig spl df r n hr hn) (sig_bit df r n) 18 (Nat.le_refl _) j (by rw [show cnt (nI 0) 18 = 36 by decide +kernel]; omega)
theorem ts_scb (df co : Nat → Int32) (r n : Nat) : ∀ j, j < 12 * 3 → cdG (nI 0) (mcA (gF (sgB r n) df 18)) (mcB (gF (sgB r n) df 18)) co 18 j = 0 ∨ cdG (nI 0) (mcA (gF (sgB r n) df 18)) (mcB (gF (sgB r n) df 18)) co 18 j = 1 := by
  intro j hj
  exact cdG_bit (nI 0) _ _ co 18 (mcA_bit (sig_bit df r n)) (mcB_bit (sig_bit df r n)) 18 j (Nat.le_refl _) (by rw [show cnt (nI 0) 18 = 36 by decide +kernel]; omega)
theorem tie_frame {mo mr : (Nat → Int32) → Nat → Nat → RP → RP} {m k : Nat} (hk : k = 12 * m) (hm : mpOK mo mr m) (hs : ∀ q, q < k → ∃ i, i < k ∧ placeN i m = q) (th : Int32) (r n S N : Nat) (hr : r < 4) (hn : n < 13) (hN : 7 + 8 * n + 6 ≤ N) (hc : cnt th N = k * S) (sv : Int32) (by_ dpl df dco co dpd pd spl df' sco co' spd pd' : Nat → Int32) (tx w : RP) :
    fwP (40 + 20 * 3) (syP mo m k (ilB k m (cdF th (PLs by_ dpl n sv N) dco N) dpd S) (scI (nI 127) 3)) (fwP 40 (syP mo1 1 12 (ilB 12 1 (cdF (thN 0) (sgF spl r n) sco 18) spd 3) (nI 127)) (atP 0 tx w) 3) S
    = fwM (40 + 20 * 3) (syM mr m k 3 (cdG th (mcA (DAs by_ df n sv N)) (mcB (DAs by_ df n sv N)) co N) pd) (fwM 40 (syM mr1 1 12 0 (cdG (nI 0) (mcA (gF (sgB r n) df' 18)) (mcB (gF (sgB r n) df' 18)) co' 18) pd') (apM 0 tx.1 8 w.1 40, apM 0 tx.2 8 w.2 40) 3) S := by
  rw [tie_fw _ _ S (tie_sym hk hm hs S 3 (pd' := pd) (fun j hj => ts_co th by_ dpl df dco co n sv N hN j (by omega)) (fun j hj => ts_cb th by_ df co n sv N j (by omega)))]
  have h0 : ∀ b, b < 3 → syP mo1 1 12 (ilB 12 1 (cdF (thN 0) (sgF spl r n) sco 18) spd 3) (nI 127) b = syM mr1 1 12 0 (cdG (nI 0) (mcA (gF (sgB r n) df' 18)) (mcB (gF (sgB r n) df' 18)) co' 18) pd' b :=
    tie_sym (m := 1) (n := 12) rfl mpOK1 sur1 3 0 (pd' := pd') (ts_sco spl df' sco co' r n hr hn) (ts_scb df' co' r n)
  rw [tie_fw 40 _ 3 h0, tie_at]
