/-! Pure words: scrambler, saturating, the transform. -/
abbrev RP : Type := (Nat → Int32) × (Nat → Int32)
def scF (st : Int32) : Int32 := ((st >>> ((6 : Int32) &&& 31)) ^^^ (st >>> ((3 : Int32) &&& 31))) &&& 1
def scN (st : Int32) : Int32 := ((st <<< ((1 : Int32) &&& 31)) ||| scF st) &&& 127
def satF (x : Int32) : Int32 := if x < -32768 then -32768 else if 32767 < x then 32767 else x
theorem i16 {x : Int32} (h1 : -32768 ≤ x.toInt) (h2 : x.toInt ≤ 32767) : x.toInt16.toInt32 = x := by
  apply Int32.toInt_inj.mp
  rw [Int16.toInt_toInt32, Int32.toInt_toInt16]
  rw [Int.bmod_def]
  omega
theorem satF_in (x : Int32) : -32768 ≤ (satF x).toInt ∧ (satF x).toInt ≤ 32767 := by
  have e1 : (-32768 : Int32).toInt = -32768 := by decide
  have e2 : (32767 : Int32).toInt = 32767 := by decide
  unfold satF
  split
  · rw [e1]; decide
  · rename_i h
    rw [Int32.lt_iff_toInt_lt, e1] at h
    split
    · rw [e2]; decide
    · rename_i h2
      rw [Int32.lt_iff_toInt_lt, e2] at h2
      omega
theorem satF_16 (x : Int32) : (satF x).toInt16.toInt32 = satF x := i16 (satF_in x).1 (satF_in x).2
/-- as the class has it: Math.max(-32768, Math.min(32767, x)) -/
theorem satF_class (x : Int32) : (if -32768 < (if x < 32767 then x else 32767) then (if x < 32767 then x else 32767) else -32768 : Int32).toInt16.toInt32 = satF x := by
  have e1 : (-32768 : Int32).toInt = -32768 := by decide
  have e2 : (32767 : Int32).toInt = 32767 := by decide
  have key : (if -32768 < (if x < 32767 then x else 32767) then (if x < 32767 then x else 32767) else -32768 : Int32) = satF x := by
    unfold satF
    by_cases a : x < 32767
    · rw [if_pos a]
      by_cases b : -32768 < x
      · rw [if_pos b, if_neg, if_neg]
        · rw [Int32.lt_iff_toInt_lt] at *; omega
        · rw [Int32.lt_iff_toInt_lt] at *; omega
      · rw [if_neg b]
        by_cases c : x < -32768
        · rw [if_pos c]
        · rw [if_neg c, if_neg]
          · apply Int32.toInt_inj.mp
            rw [Int32.lt_iff_toInt_lt] at *; omega
          · rw [Int32.lt_iff_toInt_lt] at *; omega
    · rw [if_neg a, if_pos (by decide), if_neg]
      · by_cases c : (32767 : Int32) < x
        · rw [if_pos c]
        · rw [if_neg c]
          apply Int32.toInt_inj.mp
          rw [Int32.lt_iff_toInt_lt] at *; omega
      · rw [Int32.lt_iff_toInt_lt] at *; omega
  rw [key]
  exact satF_16 x
/-! the transform -/
def jR (f g : Nat → Int32) (hi : Nat) (c d : Int64) : Int32 := (((f hi).toInt64 * c - (g hi).toInt64 * d + 8192) >>> ((14 : Int32).toInt64 &&& 63)).toInt32
def jI (f g : Nat → Int32) (hi : Nat) (c d : Int64) : Int32 := (((g hi).toInt64 * c + (f hi).toInt64 * d + 8192) >>> ((14 : Int32).toInt64 &&& 63)).toInt32
def joF (lo hi : Nat) (c d : Int64) (sh : Int32) (x : RP) : RP :=
  (upd (upd x.1 lo ((x.1 lo + jR x.1 x.2 hi c d) >>> (sh &&& 31))) hi ((x.1 lo - jR x.1 x.2 hi c d) >>> (sh &&& 31)),
   upd (upd x.2 lo ((x.2 lo + jI x.1 x.2 hi c d) >>> (sh &&& 31))) hi ((x.2 lo - jI x.1 x.2 hi c d) >>> (sh &&& 31)))
def loF (len half j : Nat) (c d : Int64) (sh : Int32) : Nat → RP → RP
  | 0, x => x
  | t + 1, x => joF (j + len * t) (j + len * t + half) c d sh (loF len half j c d sh t x)
theorem loF_0 (len half j : Nat) (c d : Int64) (sh : Int32) (x : RP) : loF len half j c d sh 0 x = x := rfl
theorem loF_s (len half j : Nat) (c d : Int64) (sh : Int32) (t : Nat) (x : RP) : loF len half j c d sh (t + 1) x = joF (j + len * t) (j + len * t + half) c d sh (loF len half j c d sh t x) := rfl
def stF (len half stp nt : Nat) (sh sign : Int32) : Nat → RP → RP
  | 0, x => x
  | j + 1, x => loF len half j (cosT (j * stp)).toInt64 (sign * cosT ((j * stp + 12) % 16)).toInt64 sh nt (stF len half stp nt sh sign j x)
theorem stF_0 (len half stp nt : Nat) (sh sign : Int32) (x : RP) : stF len half stp nt sh sign 0 x = x := rfl
theorem stF_s (len half stp nt : Nat) (sh sign : Int32) (j : Nat) (x : RP) : stF len half stp nt sh sign (j + 1) x = loF len half j (cosT (j * stp)).toInt64 (sign * cosT ((j * stp + 12) % 16)).toInt64 sh nt (stF len half stp nt sh sign j x) := rfl
def swF (a b : Nat) (f : Nat → Int32) : Nat → Int32 := upd (upd f a (f b)) b (f a)
def rvF : Nat → RP → RP
  | 0, x => x
  | k + 1, x => if k < rndN k then (swF k (rndN k) (rvF k x).1, swF k (rndN k) (rvF k x).2) else rvF k x
def trF (sign : Int32) (x : RP) : RP := stF 16 8 1 1 (nI 0) sign 8 (stF 8 4 2 2 (nI 1) sign 4 (stF 4 2 4 4 (nI 0) sign 2 (stF 2 1 8 8 (nI 1) sign 1 (rvF 16 x))))
theorem trF_d (sign : Int32) (x : RP) : trF sign x = stF 16 8 1 1 (nI 0) sign 8 (stF 8 4 2 2 (nI 1) sign 4 (stF 4 2 4 4 (nI 0) sign 2 (stF 2 1 8 8 (nI 1) sign 1 (rvF 16 x)))) := rfl
/-! filling, place by place -/
def gF (h f : Nat → Int32) : Nat → Nat → Int32
  | 0 => f
  | k + 1 => upd (gF h f k) k (h k)
theorem gF_all (h f : Nat → Int32) : ∀ (k j : Nat), j < k → gF h f k j = h j := by
  intro k
  induction k with
  | zero => intro j hj; omega
  | succ k ih =>
    intro j hj
    show upd (gF h f k) k (h k) j = h j
    by_cases e : j = k
    · subst e; exact pk_us
    · rw [pk_un e]; exact ih j (by omega)
theorem k_arr (cA : ClassId) (n : Nat) (f g : Nat → Int32) (h : ∀ j, j < n → f j = g j) : vp_cell cA (n, .inl f) = vp_cell cA (n, .inl g) := by
  rw [vp_cell_i, vp_cell_i]
  unfold arrV
  congr 1
  apply Array.ext
  · simp
  · intro i h1 h2
    simp at h1 ⊢
    exact h i h1
theorem k_rep {D : va_G} {cl : List vw_C} {ws ws' : va_W} {H : Heap} {q n : Nat} {cA : ClassId} {f g : Nat → Int32} (hP : va_P D cl ws H) (q0 : Nat) (ha : ws[q0]? = some (q, .inl (cA, n, .inl f))) (hfg : ∀ j, j < n → f j = g j) (hw : ws.set q0 (q, .inl (cA, n, .inl g)) = ws') : va_P D cl ws' H := by
  subst hw
  intro k x hk
  by_cases e : k = q0
  · subst e
    rw [List.getElem?_set_self (List.getElem?_eq_some_iff.mp ha).1] at hk
    cases hk
    have h1 := hP k _ ha
    show H[q]? = some (vp_cell cA (n, .inl g))
    rw [← k_arr cA n f g hfg]
    exact h1
  · rw [List.getElem?_set_ne (Ne.symm e)] at hk
    exact hP k x hk
def hasF (x : Int32) (n : Nat) : Int32 := if x < 0 then 0 else if nI n ≤ x then 0 else 1
theorem rnd_lt : ∀ k, k < 16 → rndN k < 16 := by decide
theorem rvF_0 (x : RP) : rvF 0 x = x := rfl
theorem rvF_t {k : Nat} (x : RP) (h : k < rndN k) : rvF (k + 1) x = (swF k (rndN k) (rvF k x).1, swF k (rndN k) (rvF k x).2) := if_pos h
theorem rvF_f {k : Nat} (x : RP) (h : rndN k ≤ k) : rvF (k + 1) x = rvF k x := if_neg (Nat.not_lt.mpr h)
