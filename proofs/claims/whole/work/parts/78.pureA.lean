/-! Pure words: the air. -/
def ecF (f : Nat → Int32) (ec k : Nat) : Int32 := if ec = 0 ∨ k < ec then f k else f k + (f (k - ec) >>> (nI 1 &&& 31))
theorem ec_0 (f : Nat → Int32) {ec : Nat} (k : Nat) (h : nI ec ≤ 0) (he : ec < 2 ^ 31) : f k = ecF f ec k := by
  unfold ecF; rw [if_pos]
  left
  have h1 := (nI_leI he (by decide : 0 < 2 ^ 31)).mp h
  omega
theorem ec_1 (f : Nat → Int32) {ec k : Nat} (h : k < ec) : f k = ecF f ec k := by
  unfold ecF; rw [if_pos (Or.inr h)]
theorem ec_2 (f : Nat → Int32) {ec k : Nat} (h : ¬ nI ec ≤ 0) (h2 : ec ≤ k) : f k + (f (k - ec) >>> (nI 1 &&& 31)) = ecF f ec k := by
  unfold ecF; rw [if_neg]
  rintro (e | e)
  · subst e; exact h (by decide)
  · omega
def tnF (x : Int32 × Int32) : Nat → Int32 × Int32
  | 0 => x
  | t + 1 => (-(tnF x t).2, (tnF x t).1)
def eaF (w : RP) (ec tu k : Nat) : Int32 × Int32 := tnF (ecF w.1 ec k, ecF w.2 ec k) tu
theorem lv_cg2 {ls : Array Slot} {nL : Nat} {a b a' b' : Int32} {l : List (Nat × Value)} (h : lv_has ls nL ((5, .int b) :: (4, .int a) :: l)) (ha : a = a') (hb : b = b') : lv_has ls nL ((5, .int b') :: (4, .int a') :: l) := by
  subst ha; subst hb; exact h
def arP (w : RP) (ec tu ld : Nat) (a : RP) : Nat → RP
  | 0 => a
  | i + 1 => (upd (arP w ec tu ld a i).1 (ld + i) (satF (eaF w ec tu i).1), upd (arP w ec tu ld a i).2 (ld + i) (satF (eaF w ec tu i).2))
theorem arP_0 (w : RP) (ec tu ld : Nat) (a : RP) : arP w ec tu ld a 0 = a := rfl
theorem arP_s (w : RP) (ec tu ld : Nat) (a : RP) (i : Nat) : arP w ec tu ld a (i + 1) = (upd (arP w ec tu ld a i).1 (ld + i) (satF (eaF w ec tu i).1), upd (arP w ec tu ld a i).2 (ld + i) (satF (eaF w ec tu i).2)) := rfl
