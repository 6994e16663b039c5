/-! Pure words: the reference's paths. -/
def msS (i j : Nat) : Int32 := nI (i % 32 * 2 + j)
def msX (i j : Nat) : Int32 := (((nI i >>> (nI 5 &&& 31)) ^^^ (msS i j >>> (nI 4 &&& 31))) ^^^ (msS i j >>> (nI 3 &&& 31))) ^^^ msS i j
def msA (i j : Nat) : Int32 := (msX i j ^^^ (msS i j >>> (nI 1 &&& 31))) &&& nI 1
def msB (i j : Nat) : Int32 := (msX i j ^^^ (msS i j >>> (nI 5 &&& 31))) &&& nI 1
def stN (mf sa sb : Nat → Int32) (k i j : Nat) : Int32 := (mf (i % 32 * 2 + j) + alM (msA i j) (sa k)) + alM (msB i j) (sb k)
def m0V (i : Nat) : Int32 := if i = 0 then nI 0 else -1000000
def vsM (mf sa sb : Nat → Int32) (k i : Nat) : Int32 := if stN mf sa sb k i 1 ≤ stN mf sa sb k i 0 then stN mf sa sb k i 0 else stN mf sa sb k i 1
def vmM (sa sb : Nat → Int32) : Nat → Nat → Int32
  | 0 => m0V
  | k + 1 => vsM (vmM sa sb k) sa sb k
theorem vmM_0 (sa sb : Nat → Int32) : vmM sa sb 0 = m0V := rfl
theorem vmM_s (sa sb : Nat → Int32) (k : Nat) : vmM sa sb (k + 1) = vsM (vmM sa sb k) sa sb k := rfl
def odI (mf sa sb : Nat → Int32) (k : Nat) (o : Nat → Int32) : Nat → Nat → Int32
  | 0 => o
  | i + 1 => upd (odI mf sa sb k o i) (64 * k + i) (if stN mf sa sb k i 1 ≤ stN mf sa sb k i 0 then nI 0 else nI 1)
theorem odI_0 (mf sa sb : Nat → Int32) (k : Nat) (o : Nat → Int32) : odI mf sa sb k o 0 = o := rfl
theorem odI_t {mf sa sb : Nat → Int32} {k : Nat} {o : Nat → Int32} {i : Nat} (h : stN mf sa sb k i 1 ≤ stN mf sa sb k i 0) : odI mf sa sb k o (i + 1) = upd (odI mf sa sb k o i) (64 * k + i) (nI 0) := by
  show upd _ _ (if _ then _ else _) = _; rw [if_pos h]
theorem odI_f {mf sa sb : Nat → Int32} {k : Nat} {o : Nat → Int32} {i : Nat} (h : ¬ stN mf sa sb k i 1 ≤ stN mf sa sb k i 0) : odI mf sa sb k o (i + 1) = upd (odI mf sa sb k o i) (64 * k + i) (nI 1) := by
  show upd _ _ (if _ then _ else _) = _; rw [if_neg h]
theorem fr_t {mf sa sb fx : Nat → Int32} {k i : Nat} (h : stN mf sa sb k i 1 ≤ stN mf sa sb k i 0) : gF (vsM mf sa sb k) fx (i + 1) = upd (gF (vsM mf sa sb k) fx i) i (stN mf sa sb k i 0) := by
  show upd _ _ (vsM mf sa sb k i) = _; rw [vsM, if_pos h]
theorem fr_f {mf sa sb fx : Nat → Int32} {k i : Nat} (h : ¬ stN mf sa sb k i 1 ≤ stN mf sa sb k i 0) : gF (vsM mf sa sb k) fx (i + 1) = upd (gF (vsM mf sa sb k) fx i) i (stN mf sa sb k i 1) := by
  show upd _ _ (vsM mf sa sb k i) = _; rw [vsM, if_neg h]
theorem upd_upd (f : Nat → Int32) (i : Nat) (a b : Int32) : upd (upd f i a) i b = upd f i b := by
  funext j
  by_cases e : j = i
  · subst e; rw [pk_us, pk_us]
  · rw [pk_un e, pk_un e, pk_un e]
def odM (sa sb o : Nat → Int32) : Nat → Nat → Int32
  | 0 => o
  | k + 1 => odI (vmM sa sb k) sa sb k (odM sa sb o k) 64
theorem odM_0 (sa sb o : Nat → Int32) : odM sa sb o 0 = o := rfl
theorem odM_s (sa sb o : Nat → Int32) (k : Nat) : odM sa sb o (k + 1) = odI (vmM sa sb k) sa sb k (odM sa sb o k) 64 := rfl
def obN (o : Nat → Int32) (i nd : Nat) : Nat := if o (64 * i + nd) = 0 then 0 else 1
theorem ob_lt (o : Nat → Int32) (i nd : Nat) : obN o i nd < 2 := by unfold obN; split <;> decide
def gbM (o : Nat → Int32) : Nat → Nat → (Nat → Int32) → (Nat → Int32)
  | 0, _, bf => bf
  | j + 1, nd, bf => gbM o j (nd % 32 * 2 + obN o j nd) (upd bf j (gbV nd))
theorem gbM_s (o : Nat → Int32) (j nd : Nat) (bf : Nat → Int32) : gbM o (j + 1) nd bf = gbM o j (nd % 32 * 2 + obN o j nd) (upd bf j (gbV nd)) := rfl
