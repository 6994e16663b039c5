/-! Pure words: disturbing and stirring the air. -/
theorem has_ok {k n : Nat} (h : k < n) (hn : n < 2 ^ 31) : ¬ hasF (nI k) n = 0 := by
  unfold hasF
  rw [if_neg (nI_pos (by omega)), if_neg (nI_ge h hn)]
  decide
theorem st_ne {am : Nat} (h : am ≤ 2000) : ¬ nI 2 * nI am + nI 1 = 0 := by
  rw [pk_mul, nI_add]
  exact nI_ne0 (by omega) (by omega)
def sX (x : Int32) : Nat → Int32
  | 0 => x
  | k + 1 => nsF (nsF (sX x k))
def srF (x am : Int32) (w : RP) : Nat → RP
  | 0 => w
  | k + 1 => (upd (srF x am w k).1 k (satF ((srF x am w k).1 k + sbY (nsF (sX x k)) am)), upd (srF x am w k).2 k (satF ((srF x am w k).2 k + sbY (nsF (nsF (sX x k))) am)))
theorem srF_0 (x am : Int32) (w : RP) : srF x am w 0 = w := rfl
theorem srF_s (x am : Int32) (w : RP) (k : Nat) : srF x am w (k + 1) = (upd (srF x am w k).1 k (satF ((srF x am w k).1 k + sbY (nsF (sX x k)) am)), upd (srF x am w k).2 k (satF ((srF x am w k).2 k + sbY (nsF (nsF (sX x k))) am))) := rfl
def smV (x : Int32) (am : Nat) (v : Int32) : Int32 := v + (ush x (nI 16) - ush x (nI 16) / nI (2 * am + 1) * nI (2 * am + 1)) - nI am
def smF (x : Int32) (am : Nat) (w : RP) : Nat → RP
  | 0 => w
  | k + 1 => (upd (smF x am w k).1 k (satF (smV (nsF (sX x k)) am ((smF x am w k).1 k))), upd (smF x am w k).2 k (satF (smV (nsF (nsF (sX x k))) am ((smF x am w k).2 k))))
theorem smF_0 (x : Int32) (am : Nat) (w : RP) : smF x am w 0 = w := rfl
theorem smF_s (x : Int32) (am : Nat) (w : RP) (k : Nat) : smF x am w (k + 1) = (upd (smF x am w k).1 k (satF (smV (nsF (sX x k)) am ((smF x am w k).1 k))), upd (smF x am w k).2 k (satF (smV (nsF (nsF (sX x k))) am ((smF x am w k).2 k)))) := rfl
