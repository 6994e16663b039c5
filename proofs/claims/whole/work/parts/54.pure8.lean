/-! Pure words: the reference's small parts. -/
def szT (k : Nat) : Int32 := match k with
  | 0 => 16384
  | 1 => 15137
  | 2 => 11585
  | 3 => 6270
  | 4 => 0
  | 5 => 6270
  | 6 => 11585
  | 7 => 15137
  | 8 => 16384
  | 9 => 15137
  | 10 => 11585
  | 11 => 6270
  | 12 => 0
  | 13 => 6270
  | 14 => 11585
  | _ => 15137
theorem cs_ok : ∀ k, k < 16 → (4 < k → k < 12 → -(szT k) = cosT k) ∧ (k ≤ 4 → szT k = cosT k) ∧ (12 ≤ k → szT k = cosT k) := by decide +kernel
theorem sw_ok : ∀ k, k < 16 → ((((nI k &&& nI 1) <<< (nI 3 &&& 31)) ||| ((nI k &&& nI 2) <<< (nI 1 &&& 31))) ||| ((nI k >>> (nI 1 &&& 31)) &&& nI 2)) ||| (nI k >>> (nI 3 &&& 31)) = nI (rndN k) := by decide +kernel
theorem satm1 {x : Int32} (h : ¬ -32768 ≤ x) : -32768 = satF x := by
  unfold satF; rw [if_pos (Int32.not_le.mp h)]
theorem satm2 {x : Int32} (h : -32768 ≤ x) (h2 : ¬ x ≤ 32767) : nI 32767 = satF x := by
  unfold satF; rw [if_neg (Int32.not_lt.mpr h), if_pos (Int32.not_le.mp h2)]; rfl
theorem satm3 {x : Int32} (h : -32768 ≤ x) (h2 : x ≤ 32767) : x = satF x := by
  unfold satF; rw [if_neg (Int32.not_lt.mpr h), if_neg (Int32.not_lt.mpr h2)]
def crF (lo hi : Nat) (c d sh : Int32) (x : RP) : RP :=
  (upd (upd x.1 hi ((x.1 lo - jR x.1 x.2 hi c.toInt64 d.toInt64) >>> (sh &&& 31))) lo (((upd x.1 hi ((x.1 lo - jR x.1 x.2 hi c.toInt64 d.toInt64) >>> (sh &&& 31))) lo + jR x.1 x.2 hi c.toInt64 d.toInt64) >>> (sh &&& 31)),
   upd (upd x.2 hi ((x.2 lo - jI x.1 x.2 hi c.toInt64 d.toInt64) >>> (sh &&& 31))) lo (((upd x.2 hi ((x.2 lo - jI x.1 x.2 hi c.toInt64 d.toInt64) >>> (sh &&& 31))) lo + jI x.1 x.2 hi c.toInt64 d.toInt64) >>> (sh &&& 31)))
def mjF (len half : Nat) (sh g : Int32) (b : Nat) : Nat → RP → RP
  | 0, x => x
  | j + 1, x => crF (len * b + j) (len * b + j + half) (cosT (j * 16 / len)) (g * cosT ((j * 16 / len + 12) % 16)) sh (mjF len half sh g b j x)
theorem mjF_0 (len half : Nat) (sh g : Int32) (b : Nat) (x : RP) : mjF len half sh g b 0 x = x := rfl
theorem mjF_s (len half : Nat) (sh g : Int32) (b j : Nat) (x : RP) : mjF len half sh g b (j + 1) x = crF (len * b + j) (len * b + j + half) (cosT (j * 16 / len)) (g * cosT ((j * 16 / len + 12) % 16)) sh (mjF len half sh g b j x) := rfl
def mbF (len half : Nat) (sh g : Int32) : Nat → RP → RP
  | 0, x => x
  | b + 1, x => mjF len half sh g b half (mbF len half sh g b x)
theorem mbF_0 (len half : Nat) (sh g : Int32) (x : RP) : mbF len half sh g 0 x = x := rfl
theorem mbF_s (len half : Nat) (sh g : Int32) (b : Nat) (x : RP) : mbF len half sh g (b + 1) x = mjF len half sh g b half (mbF len half sh g b x) := rfl
def trM (g : Int32) (x : RP) : RP := mbF 16 8 (nI 0) g 1 (mbF 8 4 (nI 1) g 2 (mbF 4 2 (nI 0) g 4 (mbF 2 1 (nI 1) g 8 (rvF 16 x))))
theorem trM_d (g : Int32) (x : RP) : trM g x = mbF 16 8 (nI 0) g 1 (mbF 8 4 (nI 1) g 2 (mbF 4 2 (nI 0) g 4 (mbF 2 1 (nI 1) g 8 (rvF 16 x)))) := rfl
def paF (f : Nat → Int32) (k j : Nat) : Int32 := if k < j then 0 else f (k - j)
theorem sub_nn {k j : Nat} (hk : k < 2 ^ 30) (hj : j < 2 ^ 30) (h : 0 ≤ nI k - nI j) : j ≤ k := by
  rw [Int32.le_iff_toInt_le, pk_sub_toInt hk hj] at h
  have : (0 : Int32).toInt = 0 := by decide
  omega
theorem sub_ng {k j : Nat} (hk : k < 2 ^ 30) (hj : j < 2 ^ 30) (h : ¬ 0 ≤ nI k - nI j) : k < j := by
  rw [Int32.le_iff_toInt_le, pk_sub_toInt hk hj] at h
  have : (0 : Int32).toInt = 0 := by decide
  omega
