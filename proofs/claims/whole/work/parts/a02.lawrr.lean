/-! Samples are shorts. -/
theorem s16_0 : S16 (fun _ => 0) := fun _ => show (0 : Int32).toInt16.toInt32 = 0 by decide
theorem s16_upd {f : Nat → Int32} (h : S16 f) (k : Nat) (x : Int32) : S16 (upd f k (satF x)) := by
  intro j
  by_cases e : j = k
  · subst e; rw [pk_us]; exact satF_16 x
  · rw [pk_un e]; exact h j
theorem s16_apF (fc : Nat) (x : Nat → Int32) (first : Nat) {f : Nat → Int32} (h : S16 f) : ∀ k, S16 (apF fc x first f k) := by
  intro k
  induction k with
  | zero => exact h
  | succ k ih => rw [apF_s]; exact s16_upd ih _ _
theorem s16_fwP (fc : Nat) (sy : Nat → RP) {w : RP} (h1 : S16 w.1) (h2 : S16 w.2) : ∀ b, S16 (fwP fc sy w b).1 ∧ S16 (fwP fc sy w b).2 := by
  intro b
  induction b with
  | zero => exact ⟨h1, h2⟩
  | succ b ih => exact ⟨s16_apF _ _ _ (s16_apF _ _ _ ih.1 4) 16, s16_apF _ _ _ (s16_apF _ _ _ ih.2 4) 16⟩
theorem s16_atP (tx : RP) {w : RP} (h1 : S16 w.1) (h2 : S16 w.2) : S16 (atP 0 tx w).1 ∧ S16 (atP 0 tx w).2 :=
  ⟨s16_apF _ _ _ (s16_apF _ _ _ (s16_apF _ _ _ h1 8) 16) 16, s16_apF _ _ _ (s16_apF _ _ _ (s16_apF _ _ _ h2 8) 16) 16⟩
theorem s16_frame (fc fc' : Nat) (sy sy' : Nat → RP) (tx : RP) {w : RP} (h1 : S16 w.1) (h2 : S16 w.2) (b b' : Nat) : S16 (fwP fc sy (fwP fc' sy' (atP 0 tx w) b') b).1 ∧ S16 (fwP fc sy (fwP fc' sy' (atP 0 tx w) b') b).2 := by
  obtain ⟨g1, g2⟩ := s16_atP tx h1 h2
  obtain ⟨g3, g4⟩ := s16_fwP fc' sy' g1 g2 b'
  exact s16_fwP fc sy g3 g4 b
theorem s16_gF (x : Int32) {f : Nat → Int32} (h : S16 f) : ∀ k, S16 (gF (fun _ => satF x) f k) := by
  intro k
  induction k with
  | zero => exact h
  | succ k ih => rw [gF_s]; exact s16_upd ih _ _
theorem s16_arP (w : RP) (ec tu ld : Nat) {a : RP} (h1 : S16 a.1) (h2 : S16 a.2) : ∀ i, S16 (arP w ec tu ld a i).1 ∧ S16 (arP w ec tu ld a i).2 := by
  intro i
  induction i with
  | zero => exact ⟨h1, h2⟩
  | succ i ih => rw [arP_s]; exact ⟨s16_upd ih.1 _ _, s16_upd ih.2 _ _⟩
theorem s16_srF (x am : Int32) {w : RP} (h1 : S16 w.1) (h2 : S16 w.2) : ∀ k, S16 (srF x am w k).1 ∧ S16 (srF x am w k).2 := by
  intro k
  induction k with
  | zero => exact ⟨h1, h2⟩
  | succ k ih => rw [srF_s]; exact ⟨s16_upd ih.1 _ _, s16_upd ih.2 _ _⟩
/-! What a hearing leaves. -/
theorem u2 (f : Nat → Int32) (a b : Int32) (k i j : Nat) (h1 : k ≠ j) (h2 : k = i) : upd (upd f i a) j b k = a := by rw [pk_un h1, h2, pk_us]
theorem rr_A (ff gt : Nat → Int32) (h2 : RP) (xhr xhb xse xbe : Int32) : RR 0 (upd (fun _ => (-1)) 0 (-2)) ff gt ((fun _ => nI 0, fun _ => nI 0) : RP) h2 (nI 1) (-2) (-2) xhr xhb xse xbe :=
  ⟨by decide, Or.inr (Or.inl ⟨by decide, by decide, rfl⟩), Or.inr ⟨by decide, rfl, rfl, rfl, rfl, rfl, rfl⟩, Or.inl ⟨Or.inr rfl, fun _ _ => ⟨rfl, rfl⟩⟩⟩
theorem lrn_ok {LX l9 : RP} {an : Int32} (h : LX = l9) (ha : ¬ an = -2) : ((nI 1 = 0 ∨ an = -2) ∧ ∀ k, k < 16 → LX.1 k = nI 0 ∧ LX.2 k = nI 0) ∨ (¬ nI 1 = 0 ∧ ¬ an = -2 ∧ ∀ k, k < 16 → LX.1 k = l9.1 k ∧ LX.2 k = l9.2 k) := by
  subst h
  exact Or.inr ⟨by decide, ha, fun _ _ => ⟨rfl, rfl⟩⟩
theorem rr_B (ff gt : Nat → Int32) {LX l9 : RP} (h : LX = l9) (d0 : Nat) (xhr xhb xse xbe : Int32) : RR 0 (upd (upd (fun _ => (-1)) 1 (nI d0)) 0 (-3)) ff gt LX l9 (nI 1) (-3) (nI d0) xhr xhb xse xbe :=
  ⟨by decide, Or.inr (Or.inl ⟨by decide, by decide, rfl⟩), Or.inr ⟨by decide, rfl, rfl, rfl, rfl, rfl, rfl⟩, lrn_ok h (by decide)⟩
theorem rr_C (ff gt : Nat → Int32) {LX l9 : RP} (h : LX = l9) (d0 r n : Nat) (xse xbe : Int32) : RR 0 (upd (upd (upd (upd (fun _ => (-1)) 1 (nI d0)) 2 (nI r)) 3 (nI n)) 0 (-4)) ff gt LX l9 (nI 1) (-4) (nI d0) (nI r) (nI n) xse xbe :=
  ⟨by decide, Or.inr (Or.inl ⟨by decide, by decide, rfl⟩), Or.inr ⟨by decide, rfl, rfl, rfl, rfl, rfl, rfl⟩, lrn_ok h (by decide)⟩
theorem rr_D (ff gt : Nat → Int32) {LX l9 : RP} (h : LX = l9) (d0 r n : Nat) {M T M' T' : Int32} (hM : M = M') (hT : T = T') : RR 0 (upd (upd (upd (upd (upd (upd (fun _ => (-1)) 1 (nI d0)) 2 (nI r)) 3 (nI n)) 5 M) 4 T) 0 (-5)) ff gt LX l9 (nI 1) (-5) (nI d0) (nI r) (nI n) T' M' :=
  ⟨by decide, Or.inr (Or.inl ⟨by decide, by decide, rfl⟩), (by subst hM; subst hT; exact Or.inr ⟨by decide, rfl, rfl, rfl, rfl, rfl, rfl⟩), lrn_ok h (by decide)⟩
theorem nI_mm {n : Nat} (h : n < 2 ^ 30) (k : Int32) (hk : k.toInt < 0) : ¬ nI n = k := by
  intro e
  have h1 := congrArg Int32.toInt e
  rw [nI_toInt (by omega)] at h1
  omega
theorem hd1_n {n : Nat} (h : n < 2 ^ 30) (v : Int32) : hd1 (nI n) v = v := if_neg (nI_mm h _ (by decide))
theorem hd2_n {n : Nat} (h : n < 2 ^ 30) (v : Int32) : hd2 (nI n) v = v := (if_neg (nI_mm h _ (by decide))).trans (if_neg (nI_mm h _ (by decide)))
theorem hd4_n {n : Nat} (h : n < 2 ^ 30) (v : Int32) : hd4 (nI n) v = v := (if_neg (nI_mm h _ (by decide))).trans ((if_neg (nI_mm h _ (by decide))).trans (if_neg (nI_mm h _ (by decide))))
theorem rr_E {ff gt : Nat → Int32} {LX l9 : RP} (h : LX = l9) (d0 r n : Nat) {M T M' T' : Int32} (hM : M = M') (hT : T = T') (hn : n < 13) (hg : ∀ k, k < n → ff k = gt k) : RR n (upd (upd (upd (upd (upd (upd (fun _ => (-1)) 1 (nI d0)) 2 (nI r)) 3 (nI n)) 5 M) 4 T) 0 (nI n)) ff gt LX l9 (nI 1) (nI n) (nI d0) (nI r) (nI n) T' M' := by
  refine ⟨by omega, Or.inr (Or.inr ⟨by decide, rfl, hg⟩), ?_, lrn_ok h (nI_mm (by omega) _ (by decide))⟩
  subst hM; subst hT
  refine Or.inr ⟨by decide, rfl, ?_, ?_, ?_, ?_, ?_⟩
  · rw [hd1_n (by omega)]; rfl
  · rw [hd2_n (by omega)]; rfl
  · rw [hd2_n (by omega)]; rfl
  · rw [hd4_n (by omega)]; rfl
  · rw [hd4_n (by omega)]; rfl
/-! The relation goes on. -/
theorem rl_n {n : Nat} {fc : Nat} {ac : Nat} {dpn : Nat} {dcn : Nat} {fn : Nat} {ww : RP} {aa : RP} {dpl : Nat → Int32} {dco : Nat → Int32} {dpd : Nat → Int32} {df : Nat → Int32} {co2 : Nat → Int32} {pd2 : Nat → Int32} {tf : Nat → Int32} {ff : Nat → Int32} {gt : Nat → Int32} {lx : RP} {hh2 : RP} {xas : Int32} {xan : Int32} {xst : Int32} {xhr : Int32} {xhb : Int32} {xse : Int32} {xbe : Int32} (h : Rl n fc ac dpn dcn fn ww aa dpl dco dpd df co2 pd2 tf ff gt lx hh2 xas xan xst xhr xhb xse xbe) {n' : Nat} (g1 : n' ≤ 12) : Rl n' fc ac dpn dcn fn ww aa dpl dco dpd df co2 pd2 tf ff gt lx hh2 xas xan xst xhr xhb xse xbe := ⟨g1, h.fc480, h.ac520, h.dp, h.dc, h.w1, h.w2, h.a1, h.a2, h.pl, h.co, h.pd, h.rr⟩
theorem rl_ac {n : Nat} {fc : Nat} {ac : Nat} {dpn : Nat} {dcn : Nat} {fn : Nat} {ww : RP} {aa : RP} {dpl : Nat → Int32} {dco : Nat → Int32} {dpd : Nat → Int32} {df : Nat → Int32} {co2 : Nat → Int32} {pd2 : Nat → Int32} {tf : Nat → Int32} {ff : Nat → Int32} {gt : Nat → Int32} {lx : RP} {hh2 : RP} {xas : Int32} {xan : Int32} {xst : Int32} {xhr : Int32} {xhb : Int32} {xse : Int32} {xbe : Int32} (h : Rl n fc ac dpn dcn fn ww aa dpl dco dpd df co2 pd2 tf ff gt lx hh2 xas xan xst xhr xhb xse xbe) {ac' : Nat} {aa' : RP} (g1 : ac' ≤ 520) (g2 : S16 aa'.1) (g3 : S16 aa'.2) : Rl n fc ac' dpn dcn fn ww aa' dpl dco dpd df co2 pd2 tf ff gt lx hh2 xas xan xst xhr xhb xse xbe := ⟨h.n12, h.fc480, g1, h.dp, h.dc, h.w1, h.w2, g2, g3, h.pl, h.co, h.pd, h.rr⟩
theorem rl_send {n : Nat} {fc : Nat} {ac : Nat} {dpn : Nat} {dcn : Nat} {fn : Nat} {ww : RP} {aa : RP} {dpl : Nat → Int32} {dco : Nat → Int32} {dpd : Nat → Int32} {df : Nat → Int32} {co2 : Nat → Int32} {pd2 : Nat → Int32} {tf : Nat → Int32} {ff : Nat → Int32} {gt : Nat → Int32} {lx : RP} {hh2 : RP} {xas : Int32} {xan : Int32} {xst : Int32} {xhr : Int32} {xhb : Int32} {xse : Int32} {xbe : Int32} (h : Rl n fc ac dpn dcn fn ww aa dpl dco dpd df co2 pd2 tf ff gt lx hh2 xas xan xst xhr xhb xse xbe) {fc' : Nat} {dpn' : Nat} {dcn' : Nat} {ww' : RP} {dpl' : Nat → Int32} {dco' : Nat → Int32} {dpd' : Nat → Int32} {df' : Nat → Int32} {co2' : Nat → Int32} {pd2' : Nat → Int32} (g1 : fc' ≤ 480) (g2 : dpn' ≤ 144) (g3 : dcn' ≤ 240) (g4 : S16 ww'.1 ∧ S16 ww'.2) (g5 : ∀ k, k < dpn' → dpl' k = df' k) (g6 : ∀ k, k < dcn' → dco' k = co2' k) (g7 : ∀ k, k < dcn' → dpd' k = pd2' k) : Rl n fc' ac dpn' dcn' fn ww' aa dpl' dco' dpd' df' co2' pd2' tf ff gt lx hh2 xas xan xst xhr xhb xse xbe := ⟨h.n12, g1, h.ac520, g2, g3, g4.1, g4.2, h.a1, h.a2, g5, g6, g7, h.rr⟩
theorem rl_rr {n : Nat} {fc : Nat} {ac : Nat} {dpn : Nat} {dcn : Nat} {fn : Nat} {ww : RP} {aa : RP} {dpl : Nat → Int32} {dco : Nat → Int32} {dpd : Nat → Int32} {df : Nat → Int32} {co2 : Nat → Int32} {pd2 : Nat → Int32} {tf : Nat → Int32} {ff : Nat → Int32} {gt : Nat → Int32} {lx : RP} {hh2 : RP} {xas : Int32} {xan : Int32} {xst : Int32} {xhr : Int32} {xhb : Int32} {xse : Int32} {xbe : Int32} (h : Rl n fc ac dpn dcn fn ww aa dpl dco dpd df co2 pd2 tf ff gt lx hh2 xas xan xst xhr xhb xse xbe) {fn' : Nat} {tf' : Nat → Int32} {ff' : Nat → Int32} {gt' : Nat → Int32} {lx' : RP} {hh2' : RP} {xas' : Int32} {xan' : Int32} {xst' : Int32} {xhr' : Int32} {xhb' : Int32} {xse' : Int32} {xbe' : Int32} (g1 : RR fn' tf' ff' gt' lx' hh2' xas' xan' xst' xhr' xhb' xse' xbe') : Rl n fc ac dpn dcn fn' ww aa dpl dco dpd df co2 pd2 tf' ff' gt' lx' hh2' xas' xan' xst' xhr' xhb' xse' xbe' := ⟨h.n12, h.fc480, h.ac520, h.dp, h.dc, h.w1, h.w2, h.a1, h.a2, h.pl, h.co, h.pd, g1⟩
