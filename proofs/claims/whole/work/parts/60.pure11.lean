/-! Pure words: the reference's receiving. -/
def pxM (wi wq : Nat → Int32) (fr : Nat) : RP := trM (-1) (fun j => wi (fr + j), fun j => wq (fr + j))
def fmF (tx : RP) (wi wq : Nat → Int32) : Nat → Int32 × Int64
  | 0 => (-2, 0)
  | d + 1 => if (fmF tx wi wq d).1 < 0 then (nI d, pwF tx wi wq (d + 8)) else if lg_cmp (pwF tx wi wq (d + 8)) (fmF tx wi wq d).2 ≤ 0 then fmF tx wi wq d else (nI d, pwF tx wi wq (d + 8))
theorem fmF_a {tx : RP} {wi wq : Nat → Int32} {d : Nat} (h : (fmF tx wi wq d).1 < 0) : fmF tx wi wq (d + 1) = (nI d, pwF tx wi wq (d + 8)) := if_pos h
theorem fmF_b {tx : RP} {wi wq : Nat → Int32} {d : Nat} (h : ¬ (fmF tx wi wq d).1 < 0) (h2 : lg_cmp (pwF tx wi wq (d + 8)) (fmF tx wi wq d).2 ≤ 0) : fmF tx wi wq (d + 1) = fmF tx wi wq d := (if_neg h).trans (if_pos h2)
theorem fmF_c {tx : RP} {wi wq : Nat → Int32} {d : Nat} (h : ¬ (fmF tx wi wq d).1 < 0) (h2 : ¬ lg_cmp (pwF tx wi wq (d + 8)) (fmF tx wi wq d).2 ≤ 0) : fmF tx wi wq (d + 1) = (nI d, pwF tx wi wq (d + 8)) := (if_neg h).trans (if_neg h2)
def fmR (x : Int32 × Int64) : Int32 := if 0 ≤ lg_cmp x.2 100000000 then x.1 else -2
def qzX (v : Int64) : Int64 := v >>> ((nI 10).toInt64 &&& 63)
def qzF (v : Int64) : Int32 := if 0 ≤ lg_cmp (qzX v) (-2047) then (if lg_cmp (qzX v) 2047 ≤ 0 then (qzX v).toInt32 else nI 2047) else -2047
def amF (v : Int64) : Int64 := if 0 ≤ lg_cmp v 0 then v else -v
def alM (b v : Int32) : Int32 := if b = nI 1 then v else -v
def ms1 (lx px : RP) (car pl : Nat) (ys : Nat → Int32) : Nat → Int32 := upd ys pl (qzF (zrF lx px car))
def ms2 (lx px : RP) (car pl : Nat) (ys : Nat → Int32) : Nat → Int32 := upd (upd ys pl (qzF (zrF lx px car))) (pl + 1) (qzF (ziF lx px car))
def ms4 (lx px : RP) (car pl : Nat) (ys : Nat → Int32) : Nat → Int32 := upd (upd (upd (upd ys pl (qzF (zrF lx px car))) (pl + 1) (qzF (eeF lx car - amF (zrF lx px car)))) (pl + 2) (qzF (ziF lx px car))) (pl + 3) (qzF (eeF lx car - amF (ziF lx px car)))
def lrM (wi wq : Nat → Int32) (d0 : Nat) : RP := lnP (lnP (fun _ => nI 0, fun _ => nI 0) (pxM wi wq (d0 + 8 + 0))) (pxM wi wq (d0 + 8 + 16))
