/-! Ties: listening, the signal, the bytes. -/
theorem cnt_0 {th : Int32} (h : th = 0) : ∀ k, cnt th k = 2 * k := by
  intro k
  induction k with
  | zero => rfl
  | succ k ih => rw [cn11 (kpA_1 k h) (kpB_1 k h), ih]; omega
theorem cnt_1 {th : Int32} (h : ¬ th = 0) : ∀ k, cnt th k = 4 * (k / 3) + (if k % 3 = 0 then 0 else if k % 3 = 1 then 2 else 3) := by
  intro k
  induction k with
  | zero => rfl
  | succ k ih =>
    rcases (show k % 3 = 0 ∨ k % 3 = 1 ∨ k % 3 = 2 by omega) with e | e | e
    · rw [cn11 (kpA_2 h (by omega)) (kpB_2 h (by omega)), ih, if_pos e, if_neg (by omega), if_pos (by omega)]; omega
    · rw [cn10 (kpA_2 h (by omega)) (kpB_0 h e), ih, if_neg (by omega), if_pos e, if_neg (by omega), if_neg (by omega)]; omega
    · rw [cn01 (kpA_0 h e) (kpB_2 h (by omega)), ih, if_neg (by omega), if_neg (by omega), if_pos (by omega)]; omega
theorem cnt_10 {th : Int32} (h : ¬ th = 0) {k : Nat} (e : k % 3 = 0) : cnt th k = 4 * (k / 3) := by rw [cnt_1 h, if_pos e]; rfl
theorem cnt_11 {th : Int32} (h : ¬ th = 0) {k : Nat} (e : k % 3 = 1) : cnt th k = 4 * (k / 3) + 2 := by rw [cnt_1 h, if_neg (by omega), if_pos e]
theorem cnt_12 {th : Int32} (h : ¬ th = 0) {k : Nat} (e : k % 3 = 2) : cnt th k = 4 * (k / 3) + 3 := by rw [cnt_1 h, if_neg (by omega), if_neg (by omega)]
theorem liA_at (th : Int32) (va sa : Nat → Int32) (k : Nat) : ∀ v, cnt th k < v → liA th va sa v k = skA th va k := by
  intro v
  induction v with
  | zero => intro h; omega
  | succ v ih =>
    intro hv
    by_cases h : th = 0
    · have hc := cnt_0 h k
      by_cases e : v % 2 = 0
      · rw [liA_e va sa h e]
        by_cases e2 : k = v / 2
        · rw [e2, pk_us, ← e2]; unfold skA; rw [if_neg (kpA_1 k h), hc]; congr 1; omega
        · rw [pk_un e2]; exact ih (by omega)
      · rw [liA_o va sa h e]; exact ih (by omega)
    · rcases (show k % 3 = 0 ∨ k % 3 = 1 ∨ k % 3 = 2 by omega) with g | g | g
      · have hc := cnt_10 h g
        have hk : skA th va k = va (4 * (k / 3)) := by unfold skA; rw [if_neg (kpA_2 h (by omega)), hc]
        rcases (show v % 4 = 0 ∨ v % 4 = 1 ∨ v % 4 = 2 ∨ v % 4 = 3 by omega) with e | e | e | e
        · rw [liA_4 va sa h e]
          by_cases e2 : k = 3 * (v / 4)
          · rw [hk]; rw [e2, pk_us]; congr 1; omega
          · rw [pk_un e2]; exact ih (by omega)
        · rw [liA_5 va sa h e]; exact ih (by omega)
        · rw [liA_6 va sa h e, pk_un (by omega)]; exact ih (by omega)
        · rw [liA_7 va sa h e, pk_un (by omega)]; exact ih (by omega)
      · have hc := cnt_11 h g
        have hk : skA th va k = va (4 * (k / 3) + 2) := by unfold skA; rw [if_neg (kpA_2 h (by omega)), hc]
        rcases (show v % 4 = 0 ∨ v % 4 = 1 ∨ v % 4 = 2 ∨ v % 4 = 3 by omega) with e | e | e | e
        · rw [liA_4 va sa h e, pk_un (by omega)]; exact ih (by omega)
        · rw [liA_5 va sa h e]; exact ih (by omega)
        · rw [liA_6 va sa h e]
          by_cases e2 : k = 3 * (v / 4) + 1
          · rw [hk]; rw [e2, pk_us]; congr 1; omega
          · rw [pk_un e2]; exact ih (by omega)
        · rw [liA_7 va sa h e, pk_un (by omega)]; exact ih (by omega)
      · have hc := cnt_12 h g
        have hk : skA th va k = nI 0 := by unfold skA; rw [if_pos (kpA_0 h g)]
        rcases (show v % 4 = 0 ∨ v % 4 = 1 ∨ v % 4 = 2 ∨ v % 4 = 3 by omega) with e | e | e | e
        · rw [liA_4 va sa h e, pk_un (by omega)]; exact ih (by omega)
        · rw [liA_5 va sa h e]; exact ih (by omega)
        · rw [liA_6 va sa h e, pk_un (by omega)]; exact ih (by omega)
        · rw [liA_7 va sa h e]
          by_cases e2 : k = 3 * (v / 4) + 2
          · rw [hk]; rw [e2, pk_us]
          · rw [pk_un e2]; exact ih (by omega)
theorem liB_at (th : Int32) (va sb : Nat → Int32) (k : Nat) : ∀ v, cnt th (k + 1) ≤ v → 0 < v → liB th va sb v k = skB th va k := by
  intro v
  induction v with
  | zero => intro _ h; omega
  | succ v ih =>
    intro hv _
    by_cases h : th = 0
    · have hc := cnt_0 h (k + 1)
      have hc' := cnt_0 h k
      by_cases e : v % 2 = 1
      · rw [liB_o va sb h e]
        by_cases e2 : k = v / 2
        · rw [e2, pk_us, ← e2]; unfold skB; rw [if_neg (kpB_1 k h), if_neg (kpA_1 k h), hc']; congr 1; omega
        · rw [pk_un e2]; exact ih (by omega) (by omega)
      · rw [liB_e va sb h e]; exact ih (by omega) (by omega)
    · rcases (show k % 3 = 0 ∨ k % 3 = 1 ∨ k % 3 = 2 by omega) with g | g | g
      · have hc := cnt_11 h (k := k + 1) (by omega)
        have hc' := cnt_10 h g
        have hk : skB th va k = va (4 * (k / 3) + 1) := by unfold skB; rw [if_neg (kpB_2 h (by omega)), if_neg (kpA_2 h (by omega)), hc']
        rcases (show v % 4 = 0 ∨ v % 4 = 1 ∨ v % 4 = 2 ∨ v % 4 = 3 by omega) with e | e | e | e
        · rw [liB_4 va sb h e]; exact ih (by omega) (by omega)
        · rw [liB_5 va sb h e]
          by_cases e2 : k = 3 * (v / 4)
          · rw [hk]; rw [e2, pk_us]; congr 1; omega
          · rw [pk_un e2]; exact ih (by omega) (by omega)
        · rw [liB_6 va sb h e, pk_un (by omega)]; exact ih (by omega) (by omega)
        · rw [liB_7 va sb h e, pk_un (by omega)]; exact ih (by omega) (by omega)
      · have hc := cnt_12 h (k := k + 1) (by omega)
        have hk : skB th va k = nI 0 := by unfold skB; rw [if_pos (kpB_0 h g)]
        rcases (show v % 4 = 0 ∨ v % 4 = 1 ∨ v % 4 = 2 ∨ v % 4 = 3 by omega) with e | e | e | e
        · rw [liB_4 va sb h e]; exact ih (by omega) (by omega)
        · rw [liB_5 va sb h e, pk_un (by omega)]; exact ih (by omega) (by omega)
        · rw [liB_6 va sb h e]
          by_cases e2 : k = 3 * (v / 4) + 1
          · rw [hk]; rw [e2, pk_us]
          · rw [pk_un e2]; exact ih (by omega) (by omega)
        · rw [liB_7 va sb h e, pk_un (by omega)]; exact ih (by omega) (by omega)
      · have hc := cnt_10 h (k := k + 1) (by omega)
        have hc' := cnt_12 h g
        have hk : skB th va k = va (4 * (k / 3) + 3) := by unfold skB; rw [if_neg (kpB_2 h (by omega)), if_pos (kpA_0 h g), hc']
        rcases (show v % 4 = 0 ∨ v % 4 = 1 ∨ v % 4 = 2 ∨ v % 4 = 3 by omega) with e | e | e | e
        · rw [liB_4 va sb h e]; exact ih (by omega) (by omega)
        · rw [liB_5 va sb h e, pk_un (by omega)]; exact ih (by omega) (by omega)
        · rw [liB_6 va sb h e, pk_un (by omega)]; exact ih (by omega) (by omega)
        · rw [liB_7 va sb h e]
          by_cases e2 : k = 3 * (v / 4) + 2
          · rw [hk]; rw [e2, pk_us]; congr 1; omega
          · rw [pk_un e2]; exact ih (by omega) (by omega)
theorem vr_va {tc : RP → RP → Nat → Nat → (Nat → Int32) → (Nat → Int32)} {n m : Nat} (hn : n = m * 12) (h0 : 0 < n) (ht : tcOK tc m) (hp : ∀ k, k < n → placeN k m < n) (lx : RP) (wi wq : Nat → Int32) (fr : Nat) (ys : Nat → Int32) (v : Nat) : vrF tc n m lx wi wq (fr + 4) ys v = vaF tc n m lx wi wq fr v := by
  unfold vrF vaF
  rw [yrB_s, tie_px, show fr + 4 + 20 * (v / n) = fr + v / n * 20 + 4 by omega]
  exact tsJ_any ht _ _ _ _ 12 _ (by rw [← hn]; exact hp _ (Nat.mod_lt _ h0))
/-- listening and decoding: class against reference -/
theorem tie_ld {tc : RP → RP → Nat → Nat → (Nat → Int32) → (Nat → Int32)} {n m : Nat} (hn : n = m * 12) (h0 : 0 < n) (ht : tcOK tc m) (hp : ∀ k, k < n → placeN k m < n) (th : Int32) (lx : RP) (wi wq : Nat → Int32) (fr : Nat) (ys sf ys' sa sb o bf bf' : Nat → Int32) (cf : Nat → Int64) (S ct : Nat) (hc : cnt th ct = n * S) :
    let A := liA th (vrF tc n m lx wi wq (fr + 4) ys') sa (n * S)
    let B := liB th (vrF tc n m lx wi wq (fr + 4) ys') sb (n * S)
    (∀ i, i < ct → dcB th (sfB tc n m lx wi wq fr ys sf S) ct cf bf i = gbM (odM A B o ct) ct (fgF (vmM A B ct) 64) bf' i) ∧ dcM th (sfB tc n m lx wi wq fr ys sf S) ct = vmM A B ct (fgF (vmM A B ct) 64) ∧ (∀ i, i < ct → dcB th (sfB tc n m lx wi wq fr ys sf S) ct cf bf i = 0 ∨ dcB th (sfB tc n m lx wi wq fr ys sf S) ct cf bf i = 1) := by
  intro A B
  refine tie_dc th _ (vrF tc n m lx wi wq (fr + 4) ys') A B o bf bf' cf ct (fun v hv => ?_) (fun k hk => ?_) (fun k hk => ?_)
  · rw [sf_va hn h0 ht hp lx wi wq fr ys sf S v (by rw [Nat.mul_comm]; omega), vr_va hn h0 ht hp]
  · refine liA_at th _ sa k (n * S) ?_
    rw [← hc]
    have h1 := cnt_mono th (a := k + 1) (b := ct) hk
    by_cases a : kpA th k = 0 <;> by_cases b : kpB th k = 0
    · exfalso
      by_cases h : th = 0
      · exact kpA_1 k h a
      · by_cases g : k % 3 = 2
        · exact kpB_2 h (by omega) b
        · exact kpA_2 h g a
    · rw [cn01 a b] at h1; omega
    · rw [cn10 a b] at h1; omega
    · rw [cn11 a b] at h1; omega
  · have h1 := cnt_mono th (a := k + 1) (b := ct) hk
    refine liB_at th _ sb k (n * S) (by omega) ?_
    by_cases h : th = 0
    · rw [cnt_0 h] at h1; omega
    · have := cnt_1 h (k + 1)
      rcases (show (k + 1) % 3 = 0 ∨ (k + 1) % 3 = 1 ∨ (k + 1) % 3 = 2 by omega) with e | e | e
      · rw [if_pos e] at this; omega
      · rw [if_neg (by omega), if_pos e] at this; omega
      · rw [if_neg (by omega), if_neg (by omega)] at this; omega
