/-! Specs: what the calls do to the abstract state a. Scalars stand in row 0: 0 pages, 12 firsts, 13 under way, 14 limit, 15 hops, 16 delay, 17 every, 20 head, 21 queued, 23 fetched, 25 gathered, 26 now, 28 total, 29..32 marks, 33 since. -/
theorem pfF_step {f y x : Nat} (hy : 0 < y) (hx : ¬ y = x) : pfF (f + 1) y x = pfF f (y / 10) x := by
  show (if y = 0 then false else (decide (y = x) || pfF f (y / 10) x)) = _
  rw [if_neg (by omega), decide_eq_false hx, Bool.false_or]
theorem pfF_hit {f y x : Nat} (hy : 0 < y) (hx : y = x) : pfF (f + 1) y x = true := by
  show (if y = 0 then false else (decide (y = x) || pfF f (y / 10) x)) = _
  rw [if_neg (by omega), decide_eq_true hx, Bool.true_or]
theorem pfF_z : ∀ (f x : Nat), pfF f 0 x = false
  | 0, _ => rfl
  | _ + 1, _ => rfl
theorem pow_ne {f y : Nat} (hy : y < 10 ^ f) (h0 : 0 < y) : ∃ f', f = f' + 1 := by
  cases f with
  | zero => simp at hy; omega
  | succ n => exact ⟨n, rfl⟩
theorem caS_skip {pr al : Nat → Int32} {y i : Nat} (h : pr i < (caS pr al y i).1 ∨ hdP y (pr i).toNatClampNeg = false) : caS pr al y (i + 1) = caS pr al y i := if_pos h
theorem caS_take {pr al : Nat → Int32} {y i : Nat} (h1 : ¬ pr i < (caS pr al y i).1) (h2 : hdP y (pr i).toNatClampNeg = true) {b : Bool} (hb : (decide (¬ al i = 0) || (decide (pr i = (caS pr al y i).1) && (caS pr al y i).2)) = b) : caS pr al y (i + 1) = (pr i, b) := by
  rw [← hb]
  exact if_neg (fun q => q.elim h1 (fun z => by rw [h2] at z; cases z))
def cn (a : gA) (j : Nat) : Nat := (a 0 j).toNatClampNeg
theorem cn_of {a : gA} {j n : Nat} (h : a 0 j = nI n) (hn : n < 2 ^ 31) : cn a j = n := by unfold cn; rw [h]; exact nI_clamp hn
def sIn (x lo hi : Int32) : Bool := decide (lo ≤ x) && decide (x ≤ hi)
theorem sIn_t {x lo hi : Int32} (h1 : ¬ x < lo) (h2 : ¬ hi < x) : sIn x lo hi = true := by
  unfold sIn
  rw [decide_eq_true (Int32.not_lt.mp h1), decide_eq_true (Int32.not_lt.mp h2)]
  rfl
theorem sIn_f1 {x lo hi : Int32} (h1 : x < lo) : sIn x lo hi = false := by
  unfold sIn
  rw [decide_eq_false (Int32.not_le.mpr h1)]
  rfl
theorem sIn_f2 {x lo hi : Int32} (h1 : hi < x) : sIn x lo hi = false := by
  unfold sIn
  rw [decide_eq_false (Int32.not_le.mpr h1), Bool.and_false]
def sIs (a : gA) (p : Int32) : Bool := decide (0 ≤ p) && decide (p < a 0 0)
theorem sIs_t {a : gA} {p : Int32} (h1 : ¬ p < 0) (h2 : ¬ a 0 0 ≤ p) : sIs a p = true := by
  unfold sIs
  rw [decide_eq_true (Int32.not_lt.mp h1), decide_eq_true (Int32.not_le.mp h2)]
  rfl
theorem sIs_f1 {a : gA} {p : Int32} (h1 : p < 0) : sIs a p = false := by
  unfold sIs
  rw [decide_eq_false (Int32.not_le.mpr h1)]
  rfl
theorem sIs_f2 {a : gA} {p : Int32} (h1 : a 0 0 ≤ p) : sIs a p = false := by
  unfold sIs
  rw [decide_eq_false (Int32.not_lt.mpr h1), Bool.and_false]
theorem sIs_of {a : gA} {p : Int32} {np : Nat} (hn : a 0 0 = nI np) (hnp : np ≤ 32) (h : sIs a p = true) : ∃ P, P < np ∧ p = nI P := by
  unfold sIs at h
  rw [Bool.and_eq_true, decide_eq_true_eq, decide_eq_true_eq, hn] at h
  rcases pk_ix p (n := np) (by omega) with q | q | q
  · exact absurd h.1 (Int32.not_le.mpr q)
  · exact absurd h.2 (Int32.not_lt.mpr q)
  · exact q
theorem sIs_nI {a : gA} {P np : Nat} (hn : a 0 0 = nI np) (hnp : np ≤ 32) (h : P < np) : sIs a (nI P) = true := sIs_t (nI_pos (by omega)) (by rw [hn]; exact nI_ge h (by omega))
/-- the rules that a page's host has, and what they say -/
def sAlw (a : gA) (P : Nat) : Bool := (alS (fun i => a 8 (4 * (a 1 P).toNatClampNeg + i)) (fun i => a 9 (4 * (a 1 P).toNatClampNeg + i)) (a 2 P).toNatClampNeg (a 10 (a 1 P).toNatClampNeg).toNatClampNeg).2
/-- a page with this host and path is among the first n -/
def sDup (a : gA) (h q : Int32) : Nat → Bool
  | 0 => false
  | n + 1 => sDup a h q n || (decide (a 1 n = h) && decide (a 2 n = q))
theorem sDup_step {a : gA} {h q : Int32} {n : Nat} (h0 : sDup a h q n = false) (h2 : ¬ (a 1 n = h ∧ a 2 n = q)) : sDup a h q (n + 1) = false := by
  show (_ || _) = _
  rw [h0, Bool.false_or, Bool.and_eq_false_iff, decide_eq_false_iff_not, decide_eq_false_iff_not]
  exact Classical.not_and_iff_not_or_not.mp h2
theorem sDup_hit {a : gA} {h q : Int32} {i : Nat} (h1 : a 1 i = h) (h2 : a 2 i = q) : ∀ {n : Nat}, i < n → sDup a h q n = true
  | 0, hi => absurd hi (Nat.not_lt_zero _)
  | n + 1, hi => by
    show (_ || _) = _
    by_cases e : i = n
    · subst e
      rw [decide_eq_true h1, decide_eq_true h2, Bool.and_true, Bool.or_true]
    · rw [sDup_hit h1 h2 (show i < n by omega), Bool.true_or]
/-- the web keeps to its bounds -/
def WFw (np : Nat) (a : gA) : Prop := np ≤ 32 ∧ a 0 0 = nI np ∧
  (∀ p, p < np → (∃ h, h < 6 ∧ a 1 p = nI h) ∧ (∃ y, 1 ≤ y ∧ y ≤ 999999 ∧ a 2 p = nI y) ∧ (a 3 p = -2 ∨ a 3 p = -3 ∨ ∃ q, q < np ∧ a 3 p = nI q) ∧ (∃ w, w ≤ 8 ∧ a 5 p = nI w) ∧ ∃ k, k ≤ 5 ∧ a 7 p = nI k ∧ ∀ i, i < k → ∃ q, q < np ∧ a 6 (5 * p + i) = nI q) ∧
  (∀ h, h < 6 → ∃ k, k ≤ 4 ∧ a 10 h = nI k ∧ ∀ i, i < k → ∃ x, x ≤ 999999 ∧ a 8 (4 * h + i) = nI x) ∧
  (∀ p, np ≤ p → a 5 p = 0 ∧ a 7 p = 0) ∧ (∀ x, 8 * np ≤ x → a 4 x = 0) ∧ (∀ x, 5 * np ≤ x → a 6 x = 0) ∧
  (∃ k, k ≤ 6 ∧ a 0 12 = nI k ∧ ∀ i, i < k → ∃ q, q < np ∧ a 11 i = nI q) ∧ (∀ x, a 9 x = 0 ∨ a 9 x = 1) ∧ (a 0 13 = 0 ∨ a 0 13 = 1)
theorem sAlw_ca {np P hh yy rc : Nat} {a : gA} (h1 : a 1 P = nI hh) (hh6 : hh < 6) (h2 : a 2 P = nI yy) (hy : yy ≤ 999999) (h3 : a 10 hh = nI rc) (hrc : rc ≤ 4) (h4 : ∀ i, i < rc → ∃ x, x ≤ 999999 ∧ a 8 (4 * hh + i) = nI x) : sAlw a P = (caS (fun i => a 8 (4 * hh + i)) (fun i => a 9 (4 * hh + i)) yy rc).2 := by
  unfold sAlw
  rw [h1, h2, nI_clamp (by omega), nI_clamp (by omega), h3, nI_clamp (by omega)]
  exact (caS_alS (by omega) rc h4).1.symm
/-- of a body's first n words those that are one of two -/
def pCt (f : Nat → Int32) (x y : Int32) : Nat → Nat
  | 0 => 0
  | n + 1 => if f n = x ∨ f n = y then pCt f x y n + 1 else pCt f x y n
theorem pCt_le (f : Nat → Int32) (x y : Int32) : ∀ n, pCt f x y n ≤ n
  | 0 => Nat.le_refl _
  | n + 1 => by
    unfold pCt
    have := pCt_le f x y n
    split <;> omega
