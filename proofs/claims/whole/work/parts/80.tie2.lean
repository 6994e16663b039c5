/-! Ties: the transform. -/
theorem upd_comm (f : Nat → Int32) {a b : Nat} (h : a ≠ b) (x y : Int32) : upd (upd f a x) b y = upd (upd f b y) a x := by
  funext j
  by_cases e : j = a
  · subst e; rw [pk_un h, pk_us, pk_us]
  · by_cases e2 : j = b
    · subst e2; rw [pk_us, pk_un e, pk_us]
    · rw [pk_un e2, pk_un e, pk_un e, pk_un e2]
theorem upd4_comm (f : Nat → Int32) {a b c d : Nat} (h1 : a ≠ c) (h2 : a ≠ d) (h3 : b ≠ c) (h4 : b ≠ d) (x y z w : Int32) : upd (upd (upd (upd f a x) b y) c z) d w = upd (upd (upd (upd f c z) d w) a x) b y := by
  rw [upd_comm _ h3 y z, upd_comm _ h1 x z, upd_comm _ h4 y w, upd_comm _ h2 x w]
theorem jo1 (lo hi : Nat) (c d : Int64) (sh : Int32) (x : RP) {j : Nat} (h1 : j ≠ lo) (h2 : j ≠ hi) : (joF lo hi c d sh x).1 j = x.1 j := by
  show upd (upd x.1 lo _) hi _ j = _
  rw [pk_un h2, pk_un h1]
theorem jo2 (lo hi : Nat) (c d : Int64) (sh : Int32) (x : RP) {j : Nat} (h1 : j ≠ lo) (h2 : j ≠ hi) : (joF lo hi c d sh x).2 j = x.2 j := by
  show upd (upd x.2 lo _) hi _ j = _
  rw [pk_un h2, pk_un h1]
def joW (lo hi : Nat) (c d : Int64) (sh : Int32) (y x : RP) : RP :=
  (upd (upd x.1 lo ((y.1 lo + jR y.1 y.2 hi c d) >>> (sh &&& 31))) hi ((y.1 lo - jR y.1 y.2 hi c d) >>> (sh &&& 31)),
   upd (upd x.2 lo ((y.2 lo + jI y.1 y.2 hi c d) >>> (sh &&& 31))) hi ((y.2 lo - jI y.1 y.2 hi c d) >>> (sh &&& 31)))
theorem joW_e (lo hi : Nat) (c d : Int64) (sh : Int32) (x : RP) : joF lo hi c d sh x = joW lo hi c d sh x x := rfl
theorem joW_r (lo hi : Nat) (c d : Int64) (sh : Int32) (y y' x : RP) (h1 : y.1 lo = y'.1 lo) (h2 : y.1 hi = y'.1 hi) (h3 : y.2 lo = y'.2 lo) (h4 : y.2 hi = y'.2 hi) : joW lo hi c d sh y x = joW lo hi c d sh y' x := by
  unfold joW jR jI
  rw [h1, h2, h3, h4]
theorem joW_c (lo hi lo' hi' : Nat) (c d c' d' : Int64) (sh sh' : Int32) (y y' x : RP) (h1 : lo ≠ lo') (h2 : lo ≠ hi') (h3 : hi ≠ lo') (h4 : hi ≠ hi') : joW lo hi c d sh y (joW lo' hi' c' d' sh' y' x) = joW lo' hi' c' d' sh' y' (joW lo hi c d sh y x) :=
  Prod.ext (upd4_comm x.1 h1.symm h3.symm h2.symm h4.symm _ _ _ _) (upd4_comm x.2 h1.symm h3.symm h2.symm h4.symm _ _ _ _)
theorem joF_c (lo hi lo' hi' : Nat) (c d c' d' : Int64) (sh sh' : Int32) (x : RP) (h1 : lo ≠ lo') (h2 : lo ≠ hi') (h3 : hi ≠ lo') (h4 : hi ≠ hi') : joF lo hi c d sh (joF lo' hi' c' d' sh' x) = joF lo' hi' c' d' sh' (joF lo hi c d sh x) := by
  rw [joW_e lo hi c d sh (joF lo' hi' c' d' sh' x), joW_r lo hi c d sh (joF lo' hi' c' d' sh' x) x _ (jo1 _ _ _ _ _ _ h1 h2) (jo1 _ _ _ _ _ _ h3 h4) (jo2 _ _ _ _ _ _ h1 h2) (jo2 _ _ _ _ _ _ h3 h4)]
  rw [joW_e lo' hi' c' d' sh' (joF lo hi c d sh x), joW_r lo' hi' c' d' sh' (joF lo hi c d sh x) x _ (jo1 _ _ _ _ _ _ h1.symm h3.symm) (jo1 _ _ _ _ _ _ h2.symm h4.symm) (jo2 _ _ _ _ _ _ h1.symm h3.symm) (jo2 _ _ _ _ _ _ h2.symm h4.symm)]
  rw [joW_e lo' hi' c' d' sh' x, joW_e lo hi c d sh x]
  exact joW_c lo hi lo' hi' c d c' d' sh sh' x x x h1 h2 h3 h4
theorem cr_jo (lo hi : Nat) (c d sh : Int32) (x : RP) (h : lo ≠ hi) : crF lo hi c d sh x = joF lo hi c.toInt64 d.toInt64 sh x := by
  unfold crF joF
  rw [pk_un h, pk_un h, upd_comm x.1 h.symm, upd_comm x.2 h.symm]
/-! two orders of one product -/
def rowP (op : Nat → Nat → RP → RP) (j : Nat) : Nat → RP → RP
  | 0, x => x
  | t + 1, x => op j t (rowP op j t x)
def colP (op : Nat → Nat → RP → RP) (t : Nat) : Nat → RP → RP
  | 0, x => x
  | j + 1, x => op j t (colP op t j x)
def rowsP (op : Nat → Nat → RP → RP) (T : Nat) : Nat → RP → RP
  | 0, x => x
  | j + 1, x => rowP op j T (rowsP op T j x)
def colsP (op : Nat → Nat → RP → RP) (J : Nat) : Nat → RP → RP
  | 0, x => x
  | t + 1, x => colP op t J (colsP op J t x)
def comP (op : Nat → Nat → RP → RP) (J T : Nat) : Prop := ∀ j t j' t', j < J → t < T → j' < J → t' < T → (j ≠ j' ∨ t ≠ t') → ∀ x, op j t (op j' t' x) = op j' t' (op j t x)
theorem col_op {op : Nat → Nat → RP → RP} {J T : Nat} (hc : comP op J T) {t j' t' : Nat} (ht : t < T) (hj' : j' < J) (ht' : t' < T) (hn : t ≠ t') : ∀ j, j ≤ J → ∀ x, colP op t j (op j' t' x) = op j' t' (colP op t j x) := by
  intro j
  induction j with
  | zero => intro _ x; rfl
  | succ j ih =>
    intro hj x
    show op j t (colP op t j (op j' t' x)) = op j' t' (op j t (colP op t j x))
    rw [ih (by omega), hc j t j' t' (by omega) ht hj' ht' (Or.inr hn)]
theorem col_row {op : Nat → Nat → RP → RP} {J T : Nat} (hc : comP op J T) {t j' : Nat} (ht : t < T) (hj' : j' < J) : ∀ t', t' ≤ t → ∀ x, colP op t j' (rowP op j' t' x) = rowP op j' t' (colP op t j' x) := by
  intro t'
  induction t' with
  | zero => intro _ x; rfl
  | succ t' ih =>
    intro h x
    show colP op t j' (op j' t' (rowP op j' t' x)) = op j' t' (rowP op j' t' (colP op t j' x))
    rw [col_op hc ht hj' (by omega) (by omega) j' (by omega), ih (by omega)]
theorem cols_s {op : Nat → Nat → RP → RP} {J T : Nat} (hc : comP op J T) {j : Nat} (hj : j < J) : ∀ t, t ≤ T → ∀ x, colsP op (j + 1) t x = rowP op j t (colsP op j t x) := by
  intro t
  induction t with
  | zero => intro _ x; rfl
  | succ t ih =>
    intro h x
    show op j t (colP op t j (colsP op (j + 1) t x)) = op j t (rowP op j t (colP op t j (colsP op j t x)))
    rw [ih (by omega), col_row hc (by omega) hj t (Nat.le_refl _)]
theorem cols_0 (op : Nat → Nat → RP → RP) : ∀ t x, colsP op 0 t x = x := by
  intro t
  induction t with
  | zero => intro x; rfl
  | succ t ih => intro x; show colsP op 0 t x = x; exact ih x
theorem rows_cols {op : Nat → Nat → RP → RP} {J T : Nat} (hc : comP op J T) : ∀ j, j ≤ J → ∀ x, rowsP op T j x = colsP op j T x := by
  intro j
  induction j with
  | zero => intro _ x; exact (cols_0 op T x).symm
  | succ j ih =>
    intro h x
    show rowP op j T (rowsP op T j x) = _
    rw [ih (by omega), cols_s hc (by omega) T (Nat.le_refl _)]
/-! a stage -/
def opS (len half stp : Nat) (sh g : Int32) (j t : Nat) : RP → RP := joF (j + len * t) (j + len * t + half) (cosT (j * stp)).toInt64 (g * cosT ((j * stp + 12) % 16)).toInt64 sh
theorem lo_row (len half stp : Nat) (sh g : Int32) (j : Nat) : ∀ t x, loF len half j (cosT (j * stp)).toInt64 (g * cosT ((j * stp + 12) % 16)).toInt64 sh t x = rowP (opS len half stp sh g) j t x := by
  intro t
  induction t with
  | zero => intro x; rfl
  | succ t ih => intro x; rw [loF_s, ih]; rfl
theorem st_rows (len half stp nt : Nat) (sh g : Int32) : ∀ j x, stF len half stp nt sh g j x = rowsP (opS len half stp sh g) nt j x := by
  intro j
  induction j with
  | zero => intro x; rfl
  | succ j ih => intro x; rw [stF_s, lo_row, ih]; rfl
theorem mj_col (len half stp : Nat) (sh g : Int32) (hh : 0 < half) (he : ∀ j, j * 16 / len = j * stp) (b : Nat) : ∀ j x, mjF len half sh g b j x = colP (opS len half stp sh g) b j x := by
  intro j
  induction j with
  | zero => intro x; rfl
  | succ j ih =>
    intro x
    rw [mjF_s, cr_jo _ _ _ _ _ _ (by omega), ih, he, Nat.add_comm (len * b) j]; rfl
theorem mb_cols (len half stp : Nat) (sh g : Int32) (hh : 0 < half) (he : ∀ j, j * 16 / len = j * stp) : ∀ b x, mbF len half sh g b x = colsP (opS len half stp sh g) half b x := by
  intro b
  induction b with
  | zero => intro x; rfl
  | succ b ih => intro x; rw [mbF_s, mj_col len half stp sh g hh he, ih]; rfl
theorem op_com (len half stp : Nat) (sh g : Int32) (hl : len = 2 * half) (T : Nat) : comP (opS len half stp sh g) half T := by
  intro j t j' t' hj ht hj' ht' hn x
  have key : j + len * t ≠ j' + len * t' := by
    intro e
    rcases Nat.lt_trichotomy t t' with h | h | h
    · have : len * (t + 1) ≤ len * t' := Nat.mul_le_mul_left len h
      rw [Nat.mul_succ] at this; omega
    · subst h; omega
    · have : len * (t' + 1) ≤ len * t := Nat.mul_le_mul_left len h
      rw [Nat.mul_succ] at this; omega
  have key2 : ∀ a b u v : Nat, a < half → b < half → a + len * u ≠ b + len * v + half := by
    intro a b u v ha hb e
    rcases Nat.lt_trichotomy u v with h | h | h
    · have : len * (u + 1) ≤ len * v := Nat.mul_le_mul_left len h
      rw [Nat.mul_succ] at this; omega
    · subst h; omega
    · have : len * (v + 1) ≤ len * u := Nat.mul_le_mul_left len h
      rw [Nat.mul_succ] at this; omega
  exact joF_c _ _ _ _ _ _ _ _ _ _ x key (key2 j j' t t' hj hj') (fun e => key2 j' j t' t hj' hj e.symm) (fun e => key (by omega))
theorem tie_stage (len half stp nt : Nat) (sh g : Int32) (hl : len = 2 * half) (hh : 0 < half) (he : ∀ j, j * 16 / len = j * stp) (x : RP) : stF len half stp nt sh g half x = mbF len half sh g nt x := by
  rw [st_rows, mb_cols len half stp sh g hh he]
  exact rows_cols (op_com len half stp sh g hl nt) half (Nat.le_refl _) x
theorem tie_tr (g : Int32) (x : RP) : trF g x = trM g x := by
  rw [trF_d, trM_d, tie_stage 16 8 1 1 _ g rfl (by decide) (fun j => by omega), tie_stage 8 4 2 2 _ g rfl (by decide) (fun j => by omega), tie_stage 4 2 4 4 _ g rfl (by decide) (fun j => by omega), tie_stage 2 1 8 8 _ g rfl (by decide) (fun j => by omega)]
theorem tie_px (wi wq : Nat → Int32) (fr : Nat) : pxM wi wq fr = pxA wi wq fr := (tie_tr _ _).symm
