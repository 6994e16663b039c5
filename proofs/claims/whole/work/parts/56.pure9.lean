/-! Pure words: the reference's sending. -/
def cdG (th : Int32) (bA bB : Nat → Int32) (co : Nat → Int32) : Nat → Nat → Int32
  | 0 => co
  | k + 1 => if kpB th k = 0 then (if kpA th k = 0 then cdG th bA bB co k else upd (cdG th bA bB co k) (cnt th k) (bA k))
    else upd (if kpA th k = 0 then cdG th bA bB co k else upd (cdG th bA bB co k) (cnt th k) (bA k)) (cnt th k + (if kpA th k = 0 then 0 else 1)) (bB k)
theorem cg00 {th : Int32} {k : Nat} (bA bB co : Nat → Int32) (a : kpA th k = 0) (b : kpB th k = 0) : cdG th bA bB co (k + 1) = cdG th bA bB co k := by rw [cdG, if_pos b, if_pos a]
theorem cg01 {th : Int32} {k : Nat} (bA bB co : Nat → Int32) (a : kpA th k = 0) (b : ¬ kpB th k = 0) : cdG th bA bB co (k + 1) = upd (cdG th bA bB co k) (cnt th k) (bB k) := by rw [cdG, if_neg b, if_pos a, if_pos a]; rfl
theorem cg10 {th : Int32} {k : Nat} (bA bB co : Nat → Int32) (a : ¬ kpA th k = 0) (b : kpB th k = 0) : cdG th bA bB co (k + 1) = upd (cdG th bA bB co k) (cnt th k) (bA k) := by rw [cdG, if_pos b, if_neg a]
theorem cg11 {th : Int32} {k : Nat} (bA bB co : Nat → Int32) (a : ¬ kpA th k = 0) (b : ¬ kpB th k = 0) : cdG th bA bB co (k + 1) = upd (upd (cdG th bA bB co k) (cnt th k) (bA k)) (cnt th k + 1) (bB k) := by rw [cdG, if_neg b, if_neg a, if_neg a]
theorem kpA_1 {th : Int32} (k : Nat) (h : th = 0) : ¬ kpA th k = 0 := by unfold kpA; rw [if_pos h]; decide
theorem kpA_2 {th : Int32} {k : Nat} (h : ¬ th = 0) (h2 : k % 3 ≠ 2) : ¬ kpA th k = 0 := by unfold kpA; rw [if_neg h, if_neg h2]; decide
theorem kpA_0 {th : Int32} {k : Nat} (h : ¬ th = 0) (h2 : k % 3 = 2) : kpA th k = 0 := by unfold kpA; rw [if_neg h, if_pos h2]
theorem kpB_1 {th : Int32} (k : Nat) (h : th = 0) : ¬ kpB th k = 0 := by unfold kpB; rw [if_pos h]; decide
theorem kpB_2 {th : Int32} {k : Nat} (h : ¬ th = 0) (h2 : k % 3 ≠ 1) : ¬ kpB th k = 0 := by unfold kpB; rw [if_neg h, if_neg h2]; decide
theorem kpB_0 {th : Int32} {k : Nat} (h : ¬ th = 0) (h2 : k % 3 = 1) : kpB th k = 0 := by unfold kpB; rw [if_neg h, if_pos h2]
def mcX (f : Nat → Int32) (k : Nat) : Int32 := ((f k ^^^ paF f k 2) ^^^ paF f k 3) ^^^ paF f k 6
def mcA (f : Nat → Int32) (k : Nat) : Int32 := mcX f k ^^^ paF f k 5
def mcB (f : Nat → Int32) (k : Nat) : Int32 := mcX f k ^^^ paF f k 1
def mv1 (b : Int32) : Int32 := nI 2048 * b - nI 1024
def mv2 (b : Int32) : Int32 := nI 1448 * b - nI 724
def mr1 (pd : Nat → Int32) (fr car : Nat) (x : RP) : RP := (upd x.1 car (mv1 (pd fr)), upd x.2 car (nI 0))
def mr2 (pd : Nat → Int32) (fr car : Nat) (x : RP) : RP := (upd x.1 car (mv2 (pd fr)), upd x.2 car (mv2 (pd (fr + 1))))
def apM (fc : Nat) (x : Nat → Int32) (first : Nat) (f : Nat → Int32) : Nat → Nat → Int32
  | 0 => f
  | i + 1 => upd (apM fc x first f i) (fc + i) (satF (x ((first + i) % 16)))
theorem apM_0 (fc : Nat) (x : Nat → Int32) (first : Nat) (f : Nat → Int32) : apM fc x first f 0 = f := rfl
theorem apM_s (fc : Nat) (x : Nat → Int32) (first : Nat) (f : Nat → Int32) (i : Nat) : apM fc x first f (i + 1) = upd (apM fc x first f i) (fc + i) (satF (x ((first + i) % 16))) := rfl
def pvM : Nat → Int32
  | 0 => nI 0
  | k + 1 => plF (scI (nI 127) k)
theorem pvM_s (k : Nat) : pvM (k + 1) = plF (scI (nI 127) k) := rfl
def ppM (p : Int32) (x : RP) : RP := (upd (upd x.1 4 p) 12 (-p), x.2)
def syM (mo : (Nat → Int32) → Nat → Nat → RP → RP) (m n nsy : Nat) (co pd : Nat → Int32) (b : Nat) : RP := trM (nI 1) (ppM (pvM (nsy + b + 1)) (mpJ mo m (ilB n m co pd (b + 1)) (n * b) 12 (fun _ => nI 0, fun _ => nI 0)))
def ptM (mo : (Nat → Int32) → Nat → Nat → RP → RP) (m n nsy : Nat) (co pd : Nat → Int32) (x : RP) : Nat → RP
  | 0 => x
  | b + 1 => syM mo m n nsy co pd b
theorem ptM_0 (mo : (Nat → Int32) → Nat → Nat → RP → RP) (m n nsy : Nat) (co pd : Nat → Int32) (x : RP) : ptM mo m n nsy co pd x 0 = x := rfl
theorem ptM_s (mo : (Nat → Int32) → Nat → Nat → RP → RP) (m n nsy : Nat) (co pd : Nat → Int32) (x : RP) (b : Nat) : ptM mo m n nsy co pd x (b + 1) = trM (nI 1) (ppM (pvM (nsy + b + 1)) (mpJ mo m (ilB n m co pd (b + 1)) (n * b) 12 (fun _ => nI 0, fun _ => nI 0))) := rfl
def fwM (fc : Nat) (sy : Nat → RP) (w : RP) : Nat → RP
  | 0 => w
  | b + 1 => (apM (fc + 20 * b) (sy b).1 12 (fwM fc sy w b).1 20, apM (fc + 20 * b) (sy b).2 12 (fwM fc sy w b).2 20)
theorem fwM_0 (fc : Nat) (sy : Nat → RP) (w : RP) : fwM fc sy w 0 = w := rfl
theorem fwM_s (fc : Nat) (mo : (Nat → Int32) → Nat → Nat → RP → RP) (m n nsy : Nat) (co pd : Nat → Int32) (w : RP) (b : Nat) : fwM fc (syM mo m n nsy co pd) w (b + 1) = (apM (fc + 20 * b) (trM (nI 1) (ppM (pvM (nsy + b + 1)) (mpJ mo m (ilB n m co pd (b + 1)) (n * b) 12 (fun _ => nI 0, fun _ => nI 0)))).1 12 (fwM fc (syM mo m n nsy co pd) w b).1 20, apM (fc + 20 * b) (trM (nI 1) (ppM (pvM (nsy + b + 1)) (mpJ mo m (ilB n m co pd (b + 1)) (n * b) 12 (fun _ => nI 0, fun _ => nI 0)))).2 12 (fwM fc (syM mo m n nsy co pd) w b).2 20) := rfl
def rgM (x : Int32) (nsy : Nat) : Nat → Int32
  | 0 => x
  | b + 1 => scI (nI 127) (nsy + b + 1)
theorem rgM_0 (x : Int32) (nsy : Nat) : rgM x nsy 0 = x := rfl
theorem rgM_s (x : Int32) (nsy b : Nat) : rgM x nsy (b + 1) = scI (nI 127) (nsy + b + 1) := rfl
theorem ilB_s (n m : Nat) (co pd : Nat → Int32) (b : Nat) : ilB n m co pd (b + 1) = ilK n m co b (ilB n m co pd b) n := rfl
theorem ilB_0 (n m : Nat) (co pd : Nat → Int32) : ilB n m co pd 0 = pd := rfl
theorem ilK_0 (n m : Nat) (co : Nat → Int32) (b : Nat) (pd : Nat → Int32) : ilK n m co b pd 0 = pd := rfl
theorem ilK_s (n m : Nat) (co : Nat → Int32) (b : Nat) (pd : Nat → Int32) (k : Nat) : ilK n m co b pd (k + 1) = upd (ilK n m co b pd k) (n * b + placeN k m) (co (n * b + k)) := rfl
theorem ppM_1 (p : Int32) (x : RP) : (ppM p x).1 = upd (upd x.1 4 p) 12 (-p) := rfl
theorem ppM_2 (p : Int32) (x : RP) : (ppM p x).2 = x.2 := rfl
theorem cl1 {th : Int32} {k n : Nat} (h : k < n) (a : ¬ kpA th k = 0) : cnt th k + 1 ≤ cnt th n := by
  have := cnt_lt th h
  rw [if_neg a] at this
  omega
theorem cl11 {th : Int32} {k n : Nat} (h : k < n) (a : ¬ kpA th k = 0) (b : ¬ kpB th k = 0) : cnt th k + 1 + 1 ≤ cnt th n := by
  have := cnt_lt th h
  rw [if_neg a, if_neg b] at this
  exact this
theorem cl01 {th : Int32} {k n : Nat} (h : k < n) (a : kpA th k = 0) (b : ¬ kpB th k = 0) : cnt th k + 1 ≤ cnt th n := by
  have := cnt_lt th h
  rw [if_pos a, if_neg b] at this
  exact this
