/-! Pure words: making a frame. -/
def apF (fc : Nat) (x : Nat → Int32) (first : Nat) (f : Nat → Int32) : Nat → Nat → Int32
  | 0 => f
  | i + 1 => upd (apF fc x first f i) (fc + i) (satF (x (first + i)))
theorem apF_0 (fc : Nat) (x : Nat → Int32) (first : Nat) (f : Nat → Int32) : apF fc x first f 0 = f := rfl
theorem apF_s (fc : Nat) (x : Nat → Int32) (first : Nat) (f : Nat → Int32) (i : Nat) : apF fc x first f (i + 1) = upd (apF fc x first f i) (fc + i) (satF (x (first + i))) := rfl
def scI (st : Int32) : Nat → Int32
  | 0 => st
  | k + 1 => scN (scI st k)
theorem scI_0 (st : Int32) : scI st 0 = st := rfl
theorem scI_s (st : Int32) (k : Nat) : scI st (k + 1) = scN (scI st k) := rfl
def plF (pv : Int32) : Int32 := if scF pv = nI 1 then -1024 else nI 1024
def ppF (pv : Int32) (x : RP) : RP := (upd (upd x.1 4 (plF pv)) 12 (-(plF pv)), x.2)
def m1V (b : Int32) : Int32 := if b = nI 1 then nI 1024 else -1024
def m2V (b : Int32) : Int32 := if b = nI 1 then nI 724 else -724
def lvI (a b : Int32) : Nat := if a = 1 then (if b = 1 then 3 else 2) else (if b = 1 then 1 else 0)
theorem lvI_lt (a b : Int32) : lvI a b < 4 := by unfold lvI; split <;> split <;> decide
theorem lvI_ok {a b : Int32} (ha : a = 0 ∨ a = 1) (hb : b = 0 ∨ b = 1) : a * nI 2 + b = nI (lvI a b) := by
  rcases ha with rfl | rfl <;> rcases hb with rfl | rfl <;> decide
def mo1 (pd : Nat → Int32) (fr car : Nat) (x : RP) : RP := (upd x.1 car (m1V (pd fr)), x.2)
def mo2 (pd : Nat → Int32) (fr car : Nat) (x : RP) : RP := (upd x.1 car (m2V (pd fr)), upd x.2 car (m2V (pd (fr + 1))))
def mo4 (pd : Nat → Int32) (fr car : Nat) (x : RP) : RP := (upd x.1 car (levT (lvI (pd fr) (pd (fr + 1)))), upd x.2 car (levT (lvI (pd (fr + 2)) (pd (fr + 3)))))
theorem cod_lt : ∀ j, j < 12 → codN j < 16 := by decide
def mpJ (mo : (Nat → Int32) → Nat → Nat → RP → RP) (m : Nat) (pd : Nat → Int32) (base : Nat) : Nat → RP → RP
  | 0, x => x
  | j + 1, x => mo pd (base + m * j) (codN j) (mpJ mo m pd base j x)
theorem mpJ_0 (mo : (Nat → Int32) → Nat → Nat → RP → RP) (m : Nat) (pd : Nat → Int32) (base : Nat) (x : RP) : mpJ mo m pd base 0 x = x := rfl
theorem mpJ_s (mo : (Nat → Int32) → Nat → Nat → RP → RP) (m : Nat) (pd : Nat → Int32) (base j : Nat) (x : RP) : mpJ mo m pd base (j + 1) x = mo pd (base + m * j) (codN j) (mpJ mo m pd base j x) := rfl
def syP (mo : (Nat → Int32) → Nat → Nat → RP → RP) (m n : Nat) (pd : Nat → Int32) (pv : Int32) (b : Nat) : RP := trF (nI 1) (ppF (scI pv b) (mpJ mo m pd (n * b) 12 (fun _ => nI 0, fun _ => nI 0)))
def ptB (mo : (Nat → Int32) → Nat → Nat → RP → RP) (m n : Nat) (pd : Nat → Int32) (pv : Int32) (x : RP) : Nat → RP
  | 0 => x
  | b + 1 => syP mo m n pd pv b
theorem ptB_0 (mo : (Nat → Int32) → Nat → Nat → RP → RP) (m n : Nat) (pd : Nat → Int32) (pv : Int32) (x : RP) : ptB mo m n pd pv x 0 = x := rfl
theorem ptB_s (mo : (Nat → Int32) → Nat → Nat → RP → RP) (m n : Nat) (pd : Nat → Int32) (pv : Int32) (x : RP) (b : Nat) : ptB mo m n pd pv x (b + 1) = trF (nI 1) (ppF (scI pv b) (mpJ mo m pd (n * b) 12 (fun _ => nI 0, fun _ => nI 0))) := rfl
def fwP (fc : Nat) (sy : Nat → RP) (w : RP) : Nat → RP
  | 0 => w
  | b + 1 => (apF (fc + 20 * b + 4) (sy b).1 0 (apF (fc + 20 * b) (sy b).1 12 (fwP fc sy w b).1 4) 16, apF (fc + 20 * b + 4) (sy b).2 0 (apF (fc + 20 * b) (sy b).2 12 (fwP fc sy w b).2 4) 16)
theorem fwP_0 (fc : Nat) (sy : Nat → RP) (w : RP) : fwP fc sy w 0 = w := rfl
theorem fwP_s (fc : Nat) (mo : (Nat → Int32) → Nat → Nat → RP → RP) (m n : Nat) (pd : Nat → Int32) (pv : Int32) (w : RP) (b : Nat) : fwP fc (syP mo m n pd pv) w (b + 1) = (apF (fc + 20 * b + 4) (trF (nI 1) (ppF (scI pv b) (mpJ mo m pd (n * b) 12 (fun _ => nI 0, fun _ => nI 0)))).1 0 (apF (fc + 20 * b) (trF (nI 1) (ppF (scI pv b) (mpJ mo m pd (n * b) 12 (fun _ => nI 0, fun _ => nI 0)))).1 12 (fwP fc (syP mo m n pd pv) w b).1 4) 16, apF (fc + 20 * b + 4) (trF (nI 1) (ppF (scI pv b) (mpJ mo m pd (n * b) 12 (fun _ => nI 0, fun _ => nI 0)))).2 0 (apF (fc + 20 * b) (trF (nI 1) (ppF (scI pv b) (mpJ mo m pd (n * b) 12 (fun _ => nI 0, fun _ => nI 0)))).2 12 (fwP fc (syP mo m n pd pv) w b).2 4) 16) := rfl
def atP (fc : Nat) (x w : RP) : RP := (apF (fc + 8 + 16) x.1 0 (apF (fc + 8) x.1 0 (apF fc x.1 8 w.1 8) 16) 16, apF (fc + 8 + 16) x.2 0 (apF (fc + 8) x.2 0 (apF fc x.2 8 w.2 8) 16) 16)
def sgF (pl : Nat → Int32) (r n : Nat) : Nat → Int32 := alF (upd (alF (alF pl 0 (nI r) 2) 2 (nI n) 4) 6 ((bcF (nI r) + bcF (nI n)) &&& nI 1)) 7 (nI 0) 11
def wdF (by_ pl : Nat → Int32) : Nat → Nat → Int32
  | 0 => alF pl 0 (nI 0) 7
  | k + 1 => alF (wdF by_ pl k) (7 + 8 * k) (by_ k) 8
theorem wdF_0 (by_ pl : Nat → Int32) : wdF by_ pl 0 = alF pl 0 (nI 0) 7 := rfl
theorem wdF_s (by_ pl : Nat → Int32) (k : Nat) : wdF by_ pl (k + 1) = alF (wdF by_ pl k) (7 + 8 * k) (by_ k) 8 := rfl
def sdF (sv : Int32) (tl : Nat) (pl : Nat → Int32) : Nat → Nat → Int32
  | 0 => pl
  | k + 1 => upd (sdF sv tl pl k) k (if tl ≤ k ∧ k < tl + 6 then nI 0 else (sdF sv tl pl k) k ^^^ scF (scI sv k))
theorem sdF_0 (sv : Int32) (tl : Nat) (pl : Nat → Int32) : sdF sv tl pl 0 = pl := rfl
theorem sdF_t {sv : Int32} {tl : Nat} {pl : Nat → Int32} {k : Nat} (h1 : tl ≤ k) (h2 : k < tl + 6) : sdF sv tl pl (k + 1) = upd (sdF sv tl pl k) k (nI 0) := by
  show upd _ _ (if _ then _ else _) = _; rw [if_pos ⟨h1, h2⟩]
theorem sdF_f {sv : Int32} {tl : Nat} {pl : Nat → Int32} {k : Nat} (h : k < tl ∨ tl + 6 ≤ k) : sdF sv tl pl (k + 1) = upd (sdF sv tl pl k) k ((sdF sv tl pl k) k ^^^ scF (scI sv k)) := by
  show upd _ _ (if _ then _ else _) = _; rw [if_neg (by omega)]
theorem cnt18 : cnt (thN 0) 18 = 36 := by decide +kernel
theorem sy0 : ∀ n, n < 13 → 7 + 8 * n + 6 ≤ syN 0 n * 6 ∧ syN 0 n * 6 ≤ 144 ∧ cnt (thN 0) (syN 0 n * 6) = 12 * syN 0 n ∧ cnt (thN 0) (syN 0 n * 6) ≤ 240 ∧ syN 0 n ≤ 19 := by decide +kernel
theorem sy1 : ∀ n, n < 13 → 7 + 8 * n + 6 ≤ syN 1 n * 12 ∧ syN 1 n * 12 ≤ 144 ∧ cnt (thN 1) (syN 1 n * 12) = 24 * syN 1 n ∧ cnt (thN 1) (syN 1 n * 12) ≤ 240 ∧ syN 1 n ≤ 19 := by decide +kernel
theorem sy2 : ∀ n, n < 13 → 7 + 8 * n + 6 ≤ syN 2 n * 18 ∧ syN 2 n * 18 ≤ 144 ∧ cnt (thN 2) (syN 2 n * 18) = 24 * syN 2 n ∧ cnt (thN 2) (syN 2 n * 18) ≤ 240 ∧ syN 2 n ≤ 19 := by decide +kernel
theorem sy3 : ∀ n, n < 13 → 7 + 8 * n + 6 ≤ syN 3 n * 36 ∧ syN 3 n * 36 ≤ 144 ∧ cnt (thN 3) (syN 3 n * 36) = 48 * syN 3 n ∧ cnt (thN 3) (syN 3 n * 36) ≤ 240 ∧ syN 3 n ≤ 19 := by decide +kernel
