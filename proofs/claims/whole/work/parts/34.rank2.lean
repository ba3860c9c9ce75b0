/-! Documents by their numbers in the class's row. -/
def dcN (a : gA) : Nat → Nat
  | 0 => 0
  | n + 1 => if sIsD a (a 15 n) = true then dcN a n + 1 else dcN a n
theorem dcN_y {a : gA} {n : Nat} (h : sIsD a (a 15 n) = true) : dcN a (n + 1) = dcN a n + 1 := if_pos h
theorem dcN_n {a : gA} {n : Nat} (h : sIsD a (a 15 n) = false) : dcN a (n + 1) = dcN a n := if_neg (by rw [h]; decide)
theorem dcN_le (a : gA) : ∀ n, dcN a n ≤ n
  | 0 => Nat.le_refl _
  | n + 1 => by
    have := dcN_le a n
    unfold dcN
    split <;> omega
theorem dcN_mono (a : gA) (n : Nat) : ∀ k, dcN a n ≤ dcN a (n + k)
  | 0 => Nat.le_refl _
  | k + 1 => by
    have := dcN_mono a n k
    have e : dcN a (n + (k + 1)) = if sIsD a (a 15 (n + k)) = true then dcN a (n + k) + 1 else dcN a (n + k) := rfl
    rw [e]
    split <;> omega
theorem dcN_mono2 {a : gA} {n m : Nat} (h : n ≤ m) : dcN a n ≤ dcN a m := by
  have := dcN_mono a n (m - n)
  rw [show n + (m - n) = m by omega] at this
  exact this
theorem dcN_lt {a : gA} {i n : Nat} (h : sIsD a (a 15 i) = true) (hi : i < n) : dcN a i < dcN a n := by
  have h1 := dcN_y h
  have h2 := dcN_mono2 (a := a) (show i + 1 ≤ n by omega)
  omega
theorem dcN_ix {a : gA} {j : Nat} : ∀ {n : Nat}, j < dcN a n → ∃ i, i < n ∧ sIsD a (a 15 i) = true ∧ dcN a i = j
  | 0, h => absurd h (Nat.not_lt_zero _)
  | n + 1, h => by
    cases e : sIsD a (a 15 n) with
    | true =>
      rw [dcN_y e] at h
      by_cases c : j = dcN a n
      · exact ⟨n, by omega, e, c.symm⟩
      · obtain ⟨i, h1, h2, h3⟩ := dcN_ix (show j < dcN a n by omega)
        exact ⟨i, by omega, h2, h3⟩
    | false =>
      rw [dcN_n e] at h
      obtain ⟨i, h1, h2, h3⟩ := dcN_ix h
      exact ⟨i, by omega, h2, h3⟩
theorem dcN_gap {a : gA} {i n : Nat} (hi : i < n) (h : dcN a i = dcN a n) : sIsD a (a 15 i) = false := by
  cases e : sIsD a (a 15 i) with
  | false => rfl
  | true => exact absurd (dcN_lt e hi) (by omega)
theorem smF_skip {a : gA} {hp : Nat} {rk : Nat → Int64} {d i : Nat} : ∀ k, dcN a i = dcN a (i + k) → smF a hp rk d (i + k) = smF a hp rk d i
  | 0, _ => rfl
  | k + 1, h => by
    have h1 := dcN_mono a i k
    have h2 := dcN_mono a (i + k) 1
    have h0 : dcN a (i + (k + 1)) = dcN a (i + k + 1) := rfl
    have h3 : dcN a (i + k) = dcN a (i + k + 1) := by omega
    have h4 : sIsD a (a 15 (i + k)) = false := dcN_gap (by omega) h3
    have h5 : smF a hp rk d (i + k + 1) = smF a hp rk d (i + k) := if_neg (fun q => by rw [h4] at q; exact absurd q.2 (by decide))
    exact h5.trans (smF_skip k (by omega))
theorem smF_skip2 {a : gA} {hp : Nat} {rk : Nat → Int64} {d i n : Nat} (hin : i ≤ n) (h : dcN a i = dcN a n) : smF a hp rk d n = smF a hp rk d i := by
  have := smF_skip (a := a) (hp := hp) (rk := rk) (d := d) (i := i) (n - i)
  rw [show i + (n - i) = n by omega] at this
  exact this h
theorem scF_no {a : gA} {hp : Nat} {v w : Int32} {P : Nat} (h : sIsD a (nI P) = false) : scF a hp v w P = 0 := if_neg (by rw [h]; decide)
theorem bsF_skip {np ng : Nat} {a : gA} {hp : Nat} {v w k : Int32} {i : Nat} (hd : dst (a 15) ng np) (hnp : np ≤ 32) (hb : bsF a hp v w k i = -1) : ∀ j, i + j ≤ ng → dcN a i = dcN a (i + j) → bsF a hp v w k (i + j) = -1
  | 0, _, _ => hb
  | j + 1, hn, h => by
    have h1 := dcN_mono a i j
    have h2 := dcN_mono a (i + j) 1
    have h0 : dcN a (i + (j + 1)) = dcN a (i + j + 1) := rfl
    have h3 : dcN a (i + j) = dcN a (i + j + 1) := by omega
    have h4 : sIsD a (a 15 (i + j)) = false := dcN_gap (by omega) h3
    obtain ⟨q, hq, eq⟩ := hd.1 (i + j) (by omega)
    refine bsF_no (bsF_skip hd hnp hb j (by omega) (by omega)) (fun z => ?_)
    rw [eq] at h4
    have z1 : 0 < scF a hp v w (a 15 (i + j)).toNatClampNeg := z.1
    rw [eq, nI_clamp (by omega), scF_no h4] at z1
    exact absurd z1 (by decide)
theorem plF_skip {np ng : Nat} {a : gA} {hp : Nat} {v w : Int32} {P i : Nat} (hd : dst (a 15) ng np) (hnp : np ≤ 32) : ∀ j, i + j ≤ ng → dcN a i = dcN a (i + j) → plF a hp v w P (i + j) = plF a hp v w P i
  | 0, _, _ => rfl
  | j + 1, hn, h => by
    have h1 := dcN_mono a i j
    have h2 := dcN_mono a (i + j) 1
    have h0 : dcN a (i + (j + 1)) = dcN a (i + j + 1) := rfl
    have h3 : dcN a (i + j) = dcN a (i + j + 1) := by omega
    have h4 : sIsD a (a 15 (i + j)) = false := dcN_gap (by omega) h3
    obtain ⟨q, hq, eq⟩ := hd.1 (i + j) (by omega)
    have h5 : plF a hp v w P (i + j + 1) = plF a hp v w P (i + j) := if_neg (fun z => by
      have z1 : 0 < scF a hp v w (a 15 (i + j)).toNatClampNeg := z.1
      rw [eq] at h4
      rw [eq, nI_clamp (by omega), scF_no h4] at z1
      exact absurd z1 (by decide))
    exact h5.trans (plF_skip hd hnp j (by omega) (by omega))
/-- the class's row of documents -/
def DL (a : gA) (ng : Nat) (x : gA) : Prop := x 2 1 = nI (dcN a ng) ∧ ∀ i, i < ng → sIsD a (a 15 i) = true → x 3 (dcN a i) = a 15 i
theorem DL_at {np ng : Nat} {a x : gA} (h : DL a ng x) (hd : dst (a 15) ng np) {j : Nat} (hj : j < dcN a ng) : ∃ i e, i < ng ∧ e < np ∧ a 15 i = nI e ∧ sIsD a (nI e) = true ∧ dcN a i = j ∧ x 3 j = nI e := by
  obtain ⟨i, h1, h2, h3⟩ := dcN_ix hj
  obtain ⟨e, he, ee⟩ := hd.1 i h1
  have h4 := h.2 i h1 h2
  rw [h3, ee] at h4
  exact ⟨i, e, h1, he, ee, by rw [← ee]; exact h2, h3, h4⟩
theorem WX_x {np : Nat} {a x x' : gA} (h : ∀ r j, r < 2 ∨ (r = 2 ∧ j = 0) → x' r j = x r j) (h2 : ∃ k, k ≤ 32 ∧ x' 2 1 = nI k) (hw : WX np a x) : WX np a x' := by
  refine ⟨fun p hp => ?_, ?_, h2⟩
  · rw [h 0 p (by omega), h 1 p (by omega)]
    exact hw.1 p hp
  · rw [h 2 0 (by omega)]
    exact hw.2.1
theorem i64_s (n : Nat) (hn : n < 1000) (s : Int64) : (nI (n + 1)).toInt64 * s = (nI n).toInt64 * s + s := by
  rw [nI_l (by omega), nI_l (by omega), ← lN_1, Int64.add_mul, Int64.one_mul]
theorem i64_0 (s : Int64) : (nI 0).toInt64 * s = 0 := by
  rw [nI_l (by omega)]
  exact Int64.zero_mul
theorem smF_add {a : gA} {hp : Nat} {rk : Nat → Int64} {d i e lk : Nat} (he : a 15 i = nI e) (he32 : e < 32) (hlk : lkN a e = lk) (hs : sIsD a (nI e) = true) : smF a hp rk d (i + 1) = smF a hp rk d i + (nI (hrN a hp e (nI d) lk)).toInt64 * (rk e / (nI (usN a hp e lk)).toInt64) := by
  have h0 : smF a hp rk d (i + 1) = if 0 < hrN a hp (a 15 i).toNatClampNeg (nI d) (lkN a (a 15 i).toNatClampNeg) ∧ sIsD a (a 15 i) = true then smF a hp rk d i + (nI (hrN a hp (a 15 i).toNatClampNeg (nI d) (lkN a (a 15 i).toNatClampNeg))).toInt64 * (rk (a 15 i).toNatClampNeg / (nI (usN a hp (a 15 i).toNatClampNeg (lkN a (a 15 i).toNatClampNeg))).toInt64) else smF a hp rk d i := rfl
  rw [h0, he, nI_clamp (by omega), hlk]
  by_cases c : 0 < hrN a hp e (nI d) lk
  · rw [if_pos ⟨c, hs⟩]
  · rw [if_neg (fun q => c q.1), show hrN a hp e (nI d) lk = 0 by omega, i64_0, Int64.add_zero]
