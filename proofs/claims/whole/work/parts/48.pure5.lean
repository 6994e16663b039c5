/-! Pure words: the paths. -/
def outV (w : Nat) : Int32 := coF (nI w) (nI 91) * nI 2 + coF (nI w) (nI 121)
def outN (w : Nat) : Nat := (outV w).toBitVec.toNat
theorem out_all : ∀ w, w < 128 → outV w = nI (outN w) ∧ outN w < 4 := by decide +kernel
theorem out_eq {w : Nat} (h : w < 128) : outV w = nI (outN w) := (out_all w h).1
theorem out_lt {w : Nat} (h : w < 128) : outN w < 4 := (out_all w h).2
def gn4 (a b : Int32) (j : Nat) : Int32 := match j with
  | 0 => -a - b
  | 1 => b - a
  | 2 => a - b
  | _ => a + b
theorem gn4_all (a b : Int32) (f : Nat → Int32) : ∀ j, j < 4 → upd (upd (upd (upd f 0 (-a - b)) 1 (b - a)) 2 (a - b)) 3 (a + b) j = gn4 a b j := by
  intro j hj
  rcases (show j = 0 ∨ j = 1 ∨ j = 2 ∨ j = 3 by omega) with rfl | rfl | rfl | rfl <;> rfl
def stM (mf : Nat → Int32) (a b : Int32) (i : Nat) : Int32 := mf (i % 32 * 2) + gn4 a b (outN (i * 2))
def stO (mf : Nat → Int32) (a b : Int32) (i : Nat) : Int32 := mf (i % 32 * 2 + 1) + gn4 a b (outN (i * 2 + 1))
def vtS (mf : Nat → Int32) (a b : Int32) (i : Nat) : Int32 := if stO mf a b i ≤ stM mf a b i then stM mf a b i else stO mf a b i
def chF (mf : Nat → Int32) (a b : Int32) : Nat → Int64
  | 0 => 0
  | i + 1 => if stO mf a b i ≤ stM mf a b i then chF mf a b i else chF mf a b i ||| ((1 : Int64) <<< ((nI i).toInt64 &&& 63))
theorem chF_t {mf : Nat → Int32} {a b : Int32} {i : Nat} (h : stO mf a b i ≤ stM mf a b i) : chF mf a b (i + 1) = chF mf a b i := if_pos h
theorem chF_f {mf : Nat → Int32} {a b : Int32} {i : Nat} (h : ¬ stO mf a b i ≤ stM mf a b i) : chF mf a b (i + 1) = chF mf a b i ||| ((1 : Int64) <<< ((nI i).toInt64 &&& 63)) := if_neg h
theorem vtS_t {mf nf : Nat → Int32} {a b : Int32} {i : Nat} (h : stO mf a b i ≤ stM mf a b i) : gF (vtS mf a b) nf (i + 1) = upd (gF (vtS mf a b) nf i) i (stM mf a b i) := by
  show upd _ _ (vtS mf a b i) = _; rw [vtS, if_pos h]
theorem vtS_f {mf nf : Nat → Int32} {a b : Int32} {i : Nat} (h : ¬ stO mf a b i ≤ stM mf a b i) : gF (vtS mf a b) nf (i + 1) = upd (gF (vtS mf a b) nf i) i (stO mf a b i) := by
  show upd _ _ (vtS mf a b i) = _; rw [vtS, if_neg h]
def fgF (mf : Nat → Int32) : Nat → Nat
  | 0 => 0
  | i + 1 => if mf i ≤ mf (fgF mf i) then fgF mf i else i
theorem fgF_1 (mf : Nat → Int32) : fgF mf 1 = 0 := by show (if _ then 0 else 0) = 0; split <;> rfl
theorem fgF_t {mf : Nat → Int32} {i : Nat} (h : mf i ≤ mf (fgF mf i)) : fgF mf (i + 1) = fgF mf i := if_pos h
theorem fgF_f {mf : Nat → Int32} {i : Nat} (h : ¬ mf i ≤ mf (fgF mf i)) : fgF mf (i + 1) = i := if_neg h
theorem fgF_lt (mf : Nat → Int32) : ∀ i, fgF mf i < i + 1 ∧ (0 < i → fgF mf i < i) := by
  intro i
  induction i with
  | zero => exact ⟨Nat.zero_lt_one, fun h => absurd h (Nat.lt_irrefl 0)⟩
  | succ i ih =>
    have : fgF mf (i + 1) < i + 1 := by
      by_cases h : mf i ≤ mf (fgF mf i)
      · rw [fgF_t h]; exact ih.1
      · rw [fgF_f h]; omega
    exact ⟨by omega, fun _ => this⟩
/-- the way back: a choice's bit, the next state, the bits -/
def cbV (c : Int64) (n : Nat) : Int64 := (c >>> ((nI n).toInt64 &&& 63)) &&& 1
def cbN (c : Int64) (n : Nat) : Nat := if cbV c n = 0 then 0 else 1
theorem and1L (x : Int64) : x &&& 1 = 0 ∨ x &&& 1 = 1 := by
  have h : (x &&& 1).toBitVec = 0#64 ∨ (x &&& 1).toBitVec = 1#64 := by
    rw [Int64.toBitVec_and]
    have e : (1 : Int64).toBitVec = 1#64 := rfl
    rw [e]
    have h1 : (x.toBitVec &&& 1#64).toNat = x.toBitVec.toNat % 2 := by rw [BitVec.toNat_and]; exact Nat.and_one_is_mod _
    rcases Nat.mod_two_eq_zero_or_one x.toBitVec.toNat with h2 | h2
    · left; apply BitVec.eq_of_toNat_eq; rw [h1, h2]; rfl
    · right; apply BitVec.eq_of_toNat_eq; rw [h1, h2]; rfl
  rcases h with h | h
  · left; exact Int64.toBitVec_inj.mp h
  · right; exact Int64.toBitVec_inj.mp h
theorem cb_ok (a : Nat) (c : Int64) (n : Nat) : nI a + (cbV c n).toInt32 = nI (a + cbN c n) := by
  unfold cbN
  rcases and1L (c >>> ((nI n).toInt64 &&& 63)) with h | h
  · have h : cbV c n = 0 := h
    rw [if_pos h, h, ← nI_add]; rfl
  · have h : cbV c n = 1 := h
    rw [if_neg (by rw [h]; decide), h, ← nI_add]; rfl
theorem cb_lt (c : Int64) (n : Nat) : cbN c n < 2 := by unfold cbN; split <;> decide
def gbV (nd : Nat) : Int32 := nI nd >>> (nI 5 &&& 31)
def gbF (cf : Nat → Int64) : Nat → Nat → (Nat → Int32) → (Nat → Int32)
  | 0, _, bf => bf
  | j + 1, nd, bf => gbF cf j (nd % 32 * 2 + cbN (cf j) nd) (upd bf j (gbV nd))
theorem gbF_s (cf : Nat → Int64) (j nd : Nat) (bf : Nat → Int32) : gbF cf (j + 1) nd bf = gbF cf j (nd % 32 * 2 + cbN (cf j) nd) (upd bf j (gbV nd)) := rfl
/-- the walk over the soft values -/
def skA (th : Int32) (sf : Nat → Int32) (k : Nat) : Int32 := if kpA th k = 0 then nI 0 else sf (cnt th k)
def skB (th : Int32) (sf : Nat → Int32) (k : Nat) : Int32 := if kpB th k = 0 then nI 0 else sf (cnt th k + (if kpA th k = 0 then 0 else 1))
def m0F : Nat → Int32 := upd (fun _ => -1000000) 0 (nI 0)
def vtM (A B : Nat → Int32) : Nat → Nat → Int32
  | 0 => m0F
  | k + 1 => vtS (vtM A B k) (A k) (B k)
theorem vtM_0 (A B : Nat → Int32) : vtM A B 0 = m0F := rfl
theorem vtM_s (A B : Nat → Int32) (k : Nat) : vtM A B (k + 1) = vtS (vtM A B k) (A k) (B k) := rfl
def vcF (A B : Nat → Int32) (cf : Nat → Int64) : Nat → Nat → Int64
  | 0 => cf
  | k + 1 => vp_updL (vcF A B cf k) k (chF (vtM A B k) (A k) (B k) 64)
theorem vcF_0 (A B : Nat → Int32) (cf : Nat → Int64) : vcF A B cf 0 = cf := rfl
theorem vcF_s (A B : Nat → Int32) (cf : Nat → Int64) (k : Nat) : vcF A B cf (k + 1) = vp_updL (vcF A B cf k) k (chF (vtM A B k) (A k) (B k) 64) := rfl
theorem cnt_240 (th : Int32) {k n : Nat} (h : k < n) (hn : cnt th n ≤ 240) : cnt th k + (if kpA th k = 0 then 0 else 1) + (if kpB th k = 0 then 0 else 1) ≤ 240 := Nat.le_trans (cnt_lt th h) hn
def dcB (th : Int32) (sf : Nat → Int32) (ct : Nat) (cf : Nat → Int64) (bf : Nat → Int32) : Nat → Int32 := gbF (vcF (skA th sf) (skB th sf) cf ct) ct (fgF (vtM (skA th sf) (skB th sf) ct) 64) bf
def dcM (th : Int32) (sf : Nat → Int32) (ct : Nat) : Int32 := vtM (skA th sf) (skB th sf) ct (fgF (vtM (skA th sf) (skB th sf) ct) 64)
