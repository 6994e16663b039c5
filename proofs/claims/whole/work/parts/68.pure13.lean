/-! Pure words: putting bytes, stirring. -/
def puV (y : Int64) (i : Nat) : Int32 := (y >>> ((nI (8 * i)).toInt64 &&& 63)).toInt32 &&& nI 255
def puF (y : Int64) : Nat → Nat → (Nat → Int32) → (Nat → Int32)
  | 0, _, f => f
  | j + 1, c, f => puF y j (c + 1) (upd f c (puV y j))
theorem puF_s (y : Int64) (j c : Nat) (f : Nat → Int32) : puF y (j + 1) c f = puF y j (c + 1) (upd f c (puV y j)) := rfl
def sbY (x am : Int32) : Int32 := ush x (nI 16) - ush x (nI 16) / (nI 2 * am + nI 1) * (nI 2 * am + nI 1) - am
