/-! Pure words: the coder, interleaving. -/
def ush (x k : Int32) : Int32 := (x.toUInt32 >>> (k.toUInt32 &&& Int32.toUInt32 31)).toInt32
def bc1 (x : Int32) : Int32 := x - (ush x 1 &&& 1431655765)
def bc2 (a : Int32) : Int32 := (a &&& 858993459) + (ush a 2 &&& 858993459)
def bc3 (b : Int32) : Int32 := (b + ush b 4) &&& 252645135
def bc4 (c : Int32) : Int32 := c + ush c 8
def bc5 (d : Int32) : Int32 := d + ush d 16
def bcF (x : Int32) : Int32 := bc5 (bc4 (bc3 (bc2 (bc1 x)))) &&& 63
def coF (w t : Int32) : Int32 := bcF (w &&& t) &&& 1
def thN (r : Nat) : Int32 := if r < 2 then 0 else 1
def kpA (th : Int32) (k : Nat) : Int32 := if th = 0 then 1 else if k % 3 = 2 then 0 else 1
def kpB (th : Int32) (k : Nat) : Int32 := if th = 0 then 1 else if k % 3 = 1 then 0 else 1
theorem dbs_ok : ∀ r, r < 4 → 6 ≤ dbsN r ∧ dbsN r ≤ 36 := by decide
def syN (r n : Nat) : Nat := (7 + 8 * n + 6 + dbsN r - 1) / dbsN r
def placeI (k m : Nat) : Nat := 12 * m / 4 * (k % 4) + k / 4
def placeN (k m : Nat) : Nat := (if 4 ≤ m then 2 else 1) * (placeI k m / (if 4 ≤ m then 2 else 1)) + (placeI k m + 12 * m - 4 * placeI k m / (12 * m)) % (if 4 ≤ m then 2 else 1)
theorem place1 : ∀ k, k < 12 → placeN k 1 < 12 := by decide
theorem place2 : ∀ k, k < 24 → placeN k 2 < 24 := by decide
theorem place4 : ∀ k, k < 48 → placeN k 4 < 48 := by decide
def alF (pl : Nat → Int32) (pn : Nat) (x : Int32) : Nat → Nat → Int32
  | 0 => pl
  | k + 1 => upd (alF pl pn x k) (pn + k) ((x >>> (nI k &&& 31)) &&& nI 1)
def cnt (th : Int32) : Nat → Nat
  | 0 => 0
  | k + 1 => cnt th k + (if kpA th k = 0 then 0 else 1) + (if kpB th k = 0 then 0 else 1)
theorem cnt_mono (th : Int32) {a b : Nat} (h : a ≤ b) : cnt th a ≤ cnt th b := by
  induction b with
  | zero => rw [Nat.le_zero.mp h]; exact Nat.le_refl _
  | succ b ih =>
    rcases Nat.lt_or_eq_of_le h with h1 | h1
    · have := ih (by omega)
      show cnt th a ≤ cnt th b + _ + _
      omega
    · rw [h1]; exact Nat.le_refl _
theorem cnt_lt (th : Int32) {k n : Nat} (h : k < n) : cnt th k + (if kpA th k = 0 then 0 else 1) + (if kpB th k = 0 then 0 else 1) ≤ cnt th n := cnt_mono th (a := k + 1) h
def wnF (pl : Nat → Int32) : Nat → Int32
  | 0 => nI 0
  | k + 1 => (wnF pl k >>> (nI 1 &&& 31)) ||| (pl k <<< (nI 6 &&& 31))
def cdF (th : Int32) (pl co : Nat → Int32) : Nat → Nat → Int32
  | 0 => co
  | k + 1 => if kpB th k = 0 then (if kpA th k = 0 then cdF th pl co k else upd (cdF th pl co k) (cnt th k) (coF (wnF pl (k + 1)) (nI 91)))
    else upd (if kpA th k = 0 then cdF th pl co k else upd (cdF th pl co k) (cnt th k) (coF (wnF pl (k + 1)) (nI 91))) (cnt th k + (if kpA th k = 0 then 0 else 1)) (coF (wnF pl (k + 1)) (nI 121))
theorem cn00 {th : Int32} {k : Nat} (a : kpA th k = 0) (b : kpB th k = 0) : cnt th (k + 1) = cnt th k := by show cnt th k + _ + _ = _; rw [if_pos a, if_pos b]; rfl
theorem cn01 {th : Int32} {k : Nat} (a : kpA th k = 0) (b : ¬ kpB th k = 0) : cnt th (k + 1) = cnt th k + 1 := by show cnt th k + _ + _ = _; rw [if_pos a, if_neg b]
theorem cn10 {th : Int32} {k : Nat} (a : ¬ kpA th k = 0) (b : kpB th k = 0) : cnt th (k + 1) = cnt th k + 1 := by show cnt th k + _ + _ = _; rw [if_neg a, if_pos b]
theorem cn11 {th : Int32} {k : Nat} (a : ¬ kpA th k = 0) (b : ¬ kpB th k = 0) : cnt th (k + 1) = cnt th k + 1 + 1 := by show cnt th k + _ + _ = _; rw [if_neg a, if_neg b]
theorem cd00 {th : Int32} {k : Nat} (pl co : Nat → Int32) (a : kpA th k = 0) (b : kpB th k = 0) : cdF th pl co (k + 1) = cdF th pl co k := by rw [cdF, if_pos b, if_pos a]
theorem cd01 {th : Int32} {k : Nat} (pl co : Nat → Int32) (a : kpA th k = 0) (b : ¬ kpB th k = 0) : cdF th pl co (k + 1) = upd (cdF th pl co k) (cnt th k) (coF (wnF pl (k + 1)) (nI 121)) := by rw [cdF, if_neg b, if_pos a, if_pos a]; rfl
theorem cd10 {th : Int32} {k : Nat} (pl co : Nat → Int32) (a : ¬ kpA th k = 0) (b : kpB th k = 0) : cdF th pl co (k + 1) = upd (cdF th pl co k) (cnt th k) (coF (wnF pl (k + 1)) (nI 91)) := by rw [cdF, if_pos b, if_neg a]
theorem cd11 {th : Int32} {k : Nat} (pl co : Nat → Int32) (a : ¬ kpA th k = 0) (b : ¬ kpB th k = 0) : cdF th pl co (k + 1) = upd (upd (cdF th pl co k) (cnt th k) (coF (wnF pl (k + 1)) (nI 91))) (cnt th k + 1) (coF (wnF pl (k + 1)) (nI 121)) := by rw [cdF, if_neg b, if_neg a, if_neg a]
def ilK (n m : Nat) (co : Nat → Int32) (b : Nat) (pd : Nat → Int32) : Nat → Nat → Int32
  | 0 => pd
  | k + 1 => upd (ilK n m co b pd k) (n * b + placeN k m) (co (n * b + k))
def ilB (n m : Nat) (co pd : Nat → Int32) : Nat → Nat → Int32
  | 0 => pd
  | b + 1 => ilK n m co b (ilB n m co pd b) n
