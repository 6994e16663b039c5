/-! Pure words: the reference's listening. -/
def liA (th : Int32) (va sa : Nat → Int32) : Nat → Nat → Int32
  | 0 => sa
  | v + 1 => if th = 0 then (if v % 2 = 0 then upd (liA th va sa v) (v / 2) (va v) else liA th va sa v)
    else if v % 4 = 0 then upd (liA th va sa v) (3 * (v / 4)) (va v) else if v % 4 = 2 then upd (liA th va sa v) (3 * (v / 4) + 1) (va v) else if v % 4 = 3 then upd (liA th va sa v) (3 * (v / 4) + 2) (nI 0) else liA th va sa v
def liB (th : Int32) (va sb : Nat → Int32) : Nat → Nat → Int32
  | 0 => sb
  | v + 1 => if th = 0 then (if v % 2 = 1 then upd (liB th va sb v) (v / 2) (va v) else liB th va sb v)
    else if v % 4 = 1 then upd (liB th va sb v) (3 * (v / 4)) (va v) else if v % 4 = 2 then upd (liB th va sb v) (3 * (v / 4) + 1) (nI 0) else if v % 4 = 3 then upd (liB th va sb v) (3 * (v / 4) + 2) (va v) else liB th va sb v
theorem liA_0 (th : Int32) (va sa : Nat → Int32) : liA th va sa 0 = sa := rfl
theorem liB_0 (th : Int32) (va sb : Nat → Int32) : liB th va sb 0 = sb := rfl
theorem liA_e {th : Int32} (va sa : Nat → Int32) {v : Nat} (h : th = 0) (h2 : v % 2 = 0) : liA th va sa (v + 1) = upd (liA th va sa v) (v / 2) (va v) := (if_pos h).trans (if_pos h2)
theorem liA_o {th : Int32} (va sa : Nat → Int32) {v : Nat} (h : th = 0) (h2 : ¬ v % 2 = 0) : liA th va sa (v + 1) = liA th va sa v := (if_pos h).trans (if_neg h2)
theorem liB_o {th : Int32} (va sb : Nat → Int32) {v : Nat} (h : th = 0) (h2 : v % 2 = 1) : liB th va sb (v + 1) = upd (liB th va sb v) (v / 2) (va v) := (if_pos h).trans (if_pos h2)
theorem liB_e {th : Int32} (va sb : Nat → Int32) {v : Nat} (h : th = 0) (h2 : ¬ v % 2 = 1) : liB th va sb (v + 1) = liB th va sb v := (if_pos h).trans (if_neg h2)
theorem liA_4 {th : Int32} (va sa : Nat → Int32) {v : Nat} (h : ¬ th = 0) (h2 : v % 4 = 0) : liA th va sa (v + 1) = upd (liA th va sa v) (3 * (v / 4)) (va v) := (if_neg h).trans (if_pos h2)
theorem liA_5 {th : Int32} (va sa : Nat → Int32) {v : Nat} (h : ¬ th = 0) (h2 : v % 4 = 1) : liA th va sa (v + 1) = liA th va sa v := (if_neg h).trans ((if_neg (by omega)).trans ((if_neg (by omega)).trans (if_neg (by omega))))
theorem liA_6 {th : Int32} (va sa : Nat → Int32) {v : Nat} (h : ¬ th = 0) (h2 : v % 4 = 2) : liA th va sa (v + 1) = upd (liA th va sa v) (3 * (v / 4) + 1) (va v) := (if_neg h).trans ((if_neg (by omega)).trans (if_pos h2))
theorem liA_7 {th : Int32} (va sa : Nat → Int32) {v : Nat} (h : ¬ th = 0) (h2 : v % 4 = 3) : liA th va sa (v + 1) = upd (liA th va sa v) (3 * (v / 4) + 2) (nI 0) := (if_neg h).trans ((if_neg (by omega)).trans ((if_neg (by omega)).trans (if_pos h2)))
theorem liB_4 {th : Int32} (va sb : Nat → Int32) {v : Nat} (h : ¬ th = 0) (h2 : v % 4 = 0) : liB th va sb (v + 1) = liB th va sb v := (if_neg h).trans ((if_neg (by omega)).trans ((if_neg (by omega)).trans (if_neg (by omega))))
theorem liB_5 {th : Int32} (va sb : Nat → Int32) {v : Nat} (h : ¬ th = 0) (h2 : v % 4 = 1) : liB th va sb (v + 1) = upd (liB th va sb v) (3 * (v / 4)) (va v) := (if_neg h).trans (if_pos h2)
theorem liB_6 {th : Int32} (va sb : Nat → Int32) {v : Nat} (h : ¬ th = 0) (h2 : v % 4 = 2) : liB th va sb (v + 1) = upd (liB th va sb v) (3 * (v / 4) + 1) (nI 0) := (if_neg h).trans ((if_neg (by omega)).trans (if_pos h2))
theorem liB_7 {th : Int32} (va sb : Nat → Int32) {v : Nat} (h : ¬ th = 0) (h2 : v % 4 = 3) : liB th va sb (v + 1) = upd (liB th va sb v) (3 * (v / 4) + 2) (va v) := (if_neg h).trans ((if_neg (by omega)).trans ((if_neg (by omega)).trans (if_pos h2)))
/-- the soft row after some symbols, and the values in coded order, as the reference has them -/
def yrB (tc : RP → RP → Nat → Nat → (Nat → Int32) → (Nat → Int32)) (m : Nat) (lx : RP) (wi wq : Nat → Int32) (fr : Nat) (ys : Nat → Int32) : Nat → Nat → Int32
  | 0 => ys
  | b + 1 => tsJ tc m lx (pxM wi wq (fr + 20 * b)) (yrB tc m lx wi wq fr ys b) 12
theorem yrB_0 (tc : RP → RP → Nat → Nat → (Nat → Int32) → (Nat → Int32)) (m : Nat) (lx : RP) (wi wq : Nat → Int32) (fr : Nat) (ys : Nat → Int32) : yrB tc m lx wi wq fr ys 0 = ys := rfl
theorem yrB_s (tc : RP → RP → Nat → Nat → (Nat → Int32) → (Nat → Int32)) (m : Nat) (lx : RP) (wi wq : Nat → Int32) (fr : Nat) (ys : Nat → Int32) (b : Nat) : yrB tc m lx wi wq fr ys (b + 1) = tsJ tc m lx (pxM wi wq (fr + 20 * b)) (yrB tc m lx wi wq fr ys b) 12 := rfl
def vrF (tc : RP → RP → Nat → Nat → (Nat → Int32) → (Nat → Int32)) (n m : Nat) (lx : RP) (wi wq : Nat → Int32) (fr : Nat) (ys : Nat → Int32) (v : Nat) : Int32 := yrB tc m lx wi wq fr ys (v / n + 1) (placeN (v % n) m)
theorem vrF_at {n : Nat} (tc : RP → RP → Nat → Nat → (Nat → Int32) → (Nat → Int32)) (m : Nat) (lx : RP) (wi wq : Nat → Int32) (fr : Nat) (ys : Nat → Int32) (s : Nat) {k : Nat} (hk : k < n) : vrF tc n m lx wi wq fr ys (n * s + k) = tsJ tc m lx (pxM wi wq (fr + 20 * s)) (yrB tc m lx wi wq fr ys s) 12 (placeN k m) := by
  unfold vrF
  rw [Nat.mul_add_div (by omega), Nat.div_eq_of_lt hk, Nat.mul_add_mod, Nat.mod_eq_of_lt hk, Nat.add_zero, yrB_s]
def gdF (bt : Nat → Int32) : Nat → Int32
  | 0 => if onF bt 7 - onF bt 7 / nI 2 * nI 2 = 0 then nI 1 else nI 0
  | k + 1 => if gdF bt k = 0 then nI 0 else if bt (7 + k) = 0 then nI 1 else nI 0
def hrF (bt : Nat → Int32) : Int32 := bt 0 + nI 2 * bt 1
def hbF (bt : Nat → Int32) : Int32 := ((bt 2 + nI 2 * bt 3) + nI 4 * bt 4) + nI 8 * bt 5
def rsF (bt : Nat → Int32) : Int32 := if gdF bt 11 = 0 then nI 0 else if hbF bt ≤ 0 then nI 0 else if nI 12 < hbF bt then nI 0 else nI 1
def seF (bt : Nat → Int32) : Nat → Int32
  | 0 => nI 0
  | k + 1 => nI 2 * seF bt k + bt k
theorem seF_s (bt : Nat → Int32) (k : Nat) : seF bt (k + 1) = nI 2 * seF bt k + bt k := rfl
def gxF (bt : Nat → Int32) (sv : Int32) (k : Nat) : Nat → Int32
  | 0 => nI 0
  | b + 1 => gxF bt sv k b ||| ((bt (7 + 8 * k + b) ^^^ scF (scI sv (8 * k + b))) <<< (nI b &&& 31))
theorem gxF_s (bt : Nat → Int32) (sv : Int32) (k b : Nat) : gxF bt sv k (b + 1) = gxF bt sv k b ||| ((bt (7 + 8 * k + b) ^^^ scF (scI sv (8 * k + b))) <<< (nI b &&& 31)) := rfl
def gtF (bt : Nat → Int32) (sv : Int32) (fo : Nat → Int32) : Nat → Nat → Int32
  | 0 => fo
  | k + 1 => upd (gtF bt sv fo k) k (gxF bt sv k 8)
theorem gtF_0 (bt : Nat → Int32) (sv : Int32) (fo : Nat → Int32) : gtF bt sv fo 0 = fo := rfl
theorem gtF_s (bt : Nat → Int32) (sv : Int32) (fo : Nat → Int32) (k : Nat) : gtF bt sv fo (k + 1) = upd (gtF bt sv fo k) k (gxF bt sv k 8) := rfl
def prB (wi wq : Nat → Int32) (fr : Nat) (x : RP) : Nat → RP
  | 0 => x
  | b + 1 => pxM wi wq (fr + 20 * b)
theorem prB_0 (wi wq : Nat → Int32) (fr : Nat) (x : RP) : prB wi wq fr x 0 = x := rfl
theorem prB_s (wi wq : Nat → Int32) (fr : Nat) (x : RP) (b : Nat) : prB wi wq fr x (b + 1) = pxM wi wq (fr + 20 * b) := rfl
theorem liA_n0 (th : Int32) (va sa : Nat → Int32) (n : Nat) : liA th va sa (n * 0) = sa := rfl
theorem liB_n0 (th : Int32) (va sb : Nat → Int32) (n : Nat) : liB th va sb (n * 0) = sb := rfl
theorem li_th0 : nI 0 = 0 := nI_0
theorem li_th1 : ¬ nI 1 = 0 := by decide
/-- the state of the two-state walk after k values of a thinned symbol -/
def isN (k : Nat) : Nat := if k % 4 = 1 then 1 else 0
def btN (k : Nat) : Nat := 3 * (k / 4) + (if k % 4 = 2 then 1 else if k % 4 = 3 then 2 else 0)
theorem is_1 {k : Nat} (h : 0 < isN k) : k % 4 = 1 := by
  unfold isN at h
  by_cases e : k % 4 = 1
  · exact e
  · rw [if_neg e] at h; omega
theorem is_1v {k : Nat} (h : 0 < isN k) : isN k = 1 := if_pos (is_1 h)
theorem is_0 {k : Nat} (h : isN k = 0) : k % 4 ≠ 1 := by
  intro e
  unfold isN at h
  rw [if_pos e] at h; omega
theorem bt_v (k : Nat) : (k % 4 = 0 ∧ btN k = 3 * (k / 4)) ∨ (k % 4 = 1 ∧ btN k = 3 * (k / 4)) ∨ (k % 4 = 2 ∧ btN k = 3 * (k / 4) + 1) ∨ (k % 4 = 3 ∧ btN k = 3 * (k / 4) + 2) := by
  unfold btN
  rcases (show k % 4 = 0 ∨ k % 4 = 1 ∨ k % 4 = 2 ∨ k % 4 = 3 by omega) with e | e | e | e
  · left; rw [if_neg (by omega), if_neg (by omega)]; exact ⟨e, rfl⟩
  · right; left; rw [if_neg (by omega), if_neg (by omega)]; exact ⟨e, rfl⟩
  · right; right; left; rw [if_pos e]; exact ⟨e, rfl⟩
  · right; right; right; rw [if_neg (by omega), if_pos e]; exact ⟨e, rfl⟩
theorem is_s1 {k : Nat} (h : k % 4 = 0) : isN (k + 1) = 1 := if_pos (by omega)
theorem is_s0 {k : Nat} (h : k % 4 ≠ 0) : isN (k + 1) = 0 := if_neg (by omega)
theorem bt_sa {k : Nat} (h : k % 4 = 0) : btN (k + 1) = btN k := by
  have h1 := bt_v k
  have h2 := bt_v (k + 1)
  omega
theorem bt_sb {k : Nat} (h : k % 4 ≠ 0) : btN (k + 1) = btN k + 1 := by
  have h1 := bt_v k
  have h2 := bt_v (k + 1)
  omega
theorem gdF_s (bt : Nat → Int32) (k : Nat) : gdF bt (k + 1) = if gdF bt k = 0 then nI 0 else if bt (7 + k) = 0 then nI 1 else nI 0 := rfl
theorem gxF_0 (bt : Nat → Int32) (sv : Int32) (k : Nat) : gxF bt sv k 0 = nI 0 := rfl
theorem seF_0 (bt : Nat → Int32) : seF bt 0 = nI 0 := rfl
