/-! Pure words: the receiver. -/
def pxA (wi wq : Nat → Int32) (fr : Nat) : RP := trF (-1) (fun j => wi (fr + j), fun j => wq (fr + j))
def acF (h f : Nat → Int32) : Nat → Nat → Int32
  | 0 => f
  | k + 1 => upd (acF h f k) k ((acF h f k) k + h k)
theorem acF_hi (h f : Nat → Int32) : ∀ (k j : Nat), k ≤ j → acF h f k j = f j := by
  intro k
  induction k with
  | zero => intro j _; rfl
  | succ k ih => intro j hj; show upd _ k _ j = _; rw [pk_un (by omega)]; exact ih j (by omega)
theorem acF_all (h f : Nat → Int32) : ∀ (k j : Nat), j < k → acF h f k j = f j + h j := by
  intro k
  induction k with
  | zero => intro j hj; omega
  | succ k ih =>
    intro j hj
    show upd _ k _ j = _
    by_cases e : j = k
    · subst e; rw [pk_us, acF_hi h f j j (Nat.le_refl _)]
    · rw [pk_un e]; exact ih j (by omega)
def lnP (x y : RP) : RP := (fun c => x.1 c + tsgT c * y.1 c, fun c => x.2 c + tsgT c * y.2 c)
def soF (v : Int64) : Int32 := (if (if (v >>> ((nI 10).toInt64 &&& 63)) < 2047 then (v >>> ((nI 10).toInt64 &&& 63)) else 2047) < -2047 then -2047 else (if (v >>> ((nI 10).toInt64 &&& 63)) < 2047 then (v >>> ((nI 10).toInt64 &&& 63)) else 2047) : Int64).toInt32
def zrF (lx px : RP) (car : Nat) : Int64 := (px.1 car).toInt64 * (lx.1 car).toInt64 + (px.2 car).toInt64 * (lx.2 car).toInt64
def ziF (lx px : RP) (car : Nat) : Int64 := (px.2 car).toInt64 * (lx.1 car).toInt64 - (px.1 car).toInt64 * (lx.2 car).toInt64
def eeF (lx : RP) (car : Nat) : Int64 := (((lx.1 car).toInt64 * (lx.1 car).toInt64 + (lx.2 car).toInt64 * (lx.2 car).toInt64) * 648) >>> ((nI 11).toInt64 &&& 63)
def abF (x : Int64) : Int64 := if 0 < x then x else -x
def tc1 (lx px : RP) (car pl : Nat) (ys : Nat → Int32) : Nat → Int32 := upd ys pl (soF (zrF lx px car))
def tc2 (lx px : RP) (car pl : Nat) (ys : Nat → Int32) : Nat → Int32 := upd (upd ys pl (soF (zrF lx px car))) (pl + 1) (soF (ziF lx px car))
def tc4 (lx px : RP) (car pl : Nat) (ys : Nat → Int32) : Nat → Int32 := upd (upd (upd (upd ys pl (soF (zrF lx px car))) (pl + 1) (soF (eeF lx car - abF (zrF lx px car)))) (pl + 2) (soF (ziF lx px car))) (pl + 3) (soF (eeF lx car - abF (ziF lx px car)))
def tsJ (tc : RP → RP → Nat → Nat → (Nat → Int32) → (Nat → Int32)) (m : Nat) (lx px : RP) (ys : Nat → Int32) : Nat → Nat → Int32
  | 0 => ys
  | j + 1 => tc lx px (codN j) (m * j) (tsJ tc m lx px ys j)
theorem tsJ_0 (tc : RP → RP → Nat → Nat → (Nat → Int32) → (Nat → Int32)) (m : Nat) (lx px : RP) (ys : Nat → Int32) : tsJ tc m lx px ys 0 = ys := rfl
theorem tsJ_s (tc : RP → RP → Nat → Nat → (Nat → Int32) → (Nat → Int32)) (m : Nat) (lx px : RP) (ys : Nat → Int32) (j : Nat) : tsJ tc m lx px ys (j + 1) = tc lx px (codN j) (m * j) (tsJ tc m lx px ys j) := rfl
def soK (n m b : Nat) (ys sf : Nat → Int32) : Nat → Nat → Int32
  | 0 => sf
  | k + 1 => upd (soK n m b ys sf k) (b * n + k) (ys (placeN k m))
theorem soK_0 (n m b : Nat) (ys sf : Nat → Int32) : soK n m b ys sf 0 = sf := rfl
theorem soK_s (n m b : Nat) (ys sf : Nat → Int32) (k : Nat) : soK n m b ys sf (k + 1) = upd (soK n m b ys sf k) (b * n + k) (ys (placeN k m)) := rfl
def pxB (wi wq : Nat → Int32) (fr : Nat) (x : RP) : Nat → RP
  | 0 => x
  | b + 1 => pxA wi wq (fr + b * 20 + 4)
theorem pxB_0 (wi wq : Nat → Int32) (fr : Nat) (x : RP) : pxB wi wq fr x 0 = x := rfl
theorem pxB_s (wi wq : Nat → Int32) (fr : Nat) (x : RP) (b : Nat) : pxB wi wq fr x (b + 1) = pxA wi wq (fr + b * 20 + 4) := rfl
def ysB (tc : RP → RP → Nat → Nat → (Nat → Int32) → (Nat → Int32)) (m : Nat) (lx : RP) (wi wq : Nat → Int32) (fr : Nat) (ys : Nat → Int32) : Nat → Nat → Int32
  | 0 => ys
  | b + 1 => tsJ tc m lx (pxA wi wq (fr + b * 20 + 4)) (ysB tc m lx wi wq fr ys b) 12
theorem ysB_0 (tc : RP → RP → Nat → Nat → (Nat → Int32) → (Nat → Int32)) (m : Nat) (lx : RP) (wi wq : Nat → Int32) (fr : Nat) (ys : Nat → Int32) : ysB tc m lx wi wq fr ys 0 = ys := rfl
theorem ysB_s (tc : RP → RP → Nat → Nat → (Nat → Int32) → (Nat → Int32)) (m : Nat) (lx : RP) (wi wq : Nat → Int32) (fr : Nat) (ys : Nat → Int32) (b : Nat) : ysB tc m lx wi wq fr ys (b + 1) = tsJ tc m lx (pxA wi wq (fr + b * 20 + 4)) (ysB tc m lx wi wq fr ys b) 12 := rfl
def sfB (tc : RP → RP → Nat → Nat → (Nat → Int32) → (Nat → Int32)) (n m : Nat) (lx : RP) (wi wq : Nat → Int32) (fr : Nat) (ys sf : Nat → Int32) : Nat → Nat → Int32
  | 0 => sf
  | b + 1 => soK n m b (tsJ tc m lx (pxA wi wq (fr + b * 20 + 4)) (ysB tc m lx wi wq fr ys b) 12) (sfB tc n m lx wi wq fr ys sf b) n
theorem sfB_0 (tc : RP → RP → Nat → Nat → (Nat → Int32) → (Nat → Int32)) (n m : Nat) (lx : RP) (wi wq : Nat → Int32) (fr : Nat) (ys sf : Nat → Int32) : sfB tc n m lx wi wq fr ys sf 0 = sf := rfl
theorem sfB_s (tc : RP → RP → Nat → Nat → (Nat → Int32) → (Nat → Int32)) (n m : Nat) (lx : RP) (wi wq : Nat → Int32) (fr : Nat) (ys sf : Nat → Int32) (b : Nat) : sfB tc n m lx wi wq fr ys sf (b + 1) = soK n m b (tsJ tc m lx (pxA wi wq (fr + b * 20 + 4)) (ysB tc m lx wi wq fr ys b) 12) (sfB tc n m lx wi wq fr ys sf b) n := rfl
def pwR (tx : RP) (wi wq : Nat → Int32) (fr : Nat) : Nat → Int64
  | 0 => 0
  | k + 1 => pwR tx wi wq fr k + ((wi (fr + k)).toInt64 * (tx.1 (k % 16)).toInt64 + (wq (fr + k)).toInt64 * (tx.2 (k % 16)).toInt64)
def pwJ (tx : RP) (wi wq : Nat → Int32) (fr : Nat) : Nat → Int64
  | 0 => 0
  | k + 1 => pwJ tx wi wq fr k + ((wq (fr + k)).toInt64 * (tx.1 (k % 16)).toInt64 - (wi (fr + k)).toInt64 * (tx.2 (k % 16)).toInt64)
def pwF (tx : RP) (wi wq : Nat → Int32) (fr : Nat) : Int64 := (pwR tx wi wq fr 32 >>> ((nI 8).toInt64 &&& 63)) * (pwR tx wi wq fr 32 >>> ((nI 8).toInt64 &&& 63)) + (pwJ tx wi wq fr 32 >>> ((nI 8).toInt64 &&& 63)) * (pwJ tx wi wq fr 32 >>> ((nI 8).toInt64 &&& 63))
def fsF (tx : RP) (wi wq : Nat → Int32) : Nat → Int32 × Int64
  | 0 => (-1, 99999999)
  | d + 1 => if lg_cmp (pwF tx wi wq (d + 8)) (fsF tx wi wq d).2 ≤ 0 then fsF tx wi wq d else (nI d, pwF tx wi wq (d + 8))
theorem fsF_t {tx : RP} {wi wq : Nat → Int32} {d : Nat} (h : lg_cmp (pwF tx wi wq (d + 8)) (fsF tx wi wq d).2 ≤ 0) : fsF tx wi wq (d + 1) = fsF tx wi wq d := if_pos h
theorem fsF_f {tx : RP} {wi wq : Nat → Int32} {d : Nat} (h : ¬ lg_cmp (pwF tx wi wq (d + 8)) (fsF tx wi wq d).2 ≤ 0) : fsF tx wi wq (d + 1) = (nI d, pwF tx wi wq (d + 8)) := if_neg h
def nbF (bt : Nat → Int32) (fr : Nat) : Nat → Int32
  | 0 => nI 0
  | k + 1 => nbF bt fr k ||| (bt (fr + k) <<< (nI k &&& 31))
def onF (bt : Nat → Int32) : Nat → Int32
  | 0 => nI 0
  | k + 1 => onF bt k + bt k
def isP (bt : Nat → Int32) : Prop := (∀ j, 7 ≤ j → j < 18 → bt j = 0) ∧ onF bt 7 - onF bt 7 / nI 2 * nI 2 = 0 ∧ ¬ nbF bt 2 4 < nI 1 ∧ ¬ nI 12 < nbF bt 2 4
def sbF (st : Int32) : Nat → Int32
  | 0 => nI 0
  | k + 1 => sbF st k ||| (scF (scI st k) <<< (nI k &&& 31))
def tsF (bt : Nat → Int32) : Nat → Int32
  | 0 => nI 0
  | k + 1 => (tsF bt k <<< (nI 1 &&& 31)) ||| bt k
def fbF (bt fo : Nat → Int32) (sv : Int32) : Nat → Nat → Int32
  | 0 => fo
  | b + 1 => upd (fbF bt fo sv b) b (nbF bt (7 + 8 * b) 8 ^^^ sbF (scI sv (8 * b)) 8)
theorem fbF_0 (bt fo : Nat → Int32) (sv : Int32) : fbF bt fo sv 0 = fo := rfl
theorem fbF_s (bt fo : Nat → Int32) (sv : Int32) (b : Nat) : fbF bt fo sv (b + 1) = upd (fbF bt fo sv b) b (nbF bt (7 + 8 * b) 8 ^^^ sbF (scI sv (8 * b)) 8) := rfl
theorem scI_add (st : Int32) (a : Nat) : ∀ b, scI (scI st a) b = scI st (a + b) := by
  intro b
  induction b with
  | zero => rfl
  | succ b ih => show scN (scI (scI st a) b) = scN (scI st (a + b)); rw [ih]
theorem nI_m1 {d : Nat} (h : d < 2 ^ 31) : ¬ nI d = -1 := by
  intro e
  have h1 := congrArg Int32.toInt e
  rw [nI_toInt h] at h1
  have : (-1 : Int32).toInt = -1 := by decide
  omega
