/-! Pure words: answers as ints, rows of numbers. -/
theorem nI_inc (i : Nat) : nI i + Int32.ofInt 1 = nI (i + 1) := nI_1 i
def bI (b : Bool) : Int32 := if b = true then 1 else 0
theorem bI_nar (b : Bool) : narrow .boolean (.int (bI b)) = .int (bI b) := by cases b <;> rfl
theorem bI_narz (b : Bool) : vp_nar .boolean (bI b) = bI b := by cases b <;> rfl
theorem bI_fit (b : Bool) : fits .boolean (.int (bI b)) = true := by cases b <;> rfl
theorem bI_0 {b : Bool} (h : bI b = 0) : b = false := by
  cases b
  · rfl
  · exact absurd h (by decide)
theorem bI_n0 {b : Bool} (h : ¬ bI b = 0) : b = true := by
  cases b
  · exact absurd rfl h
  · rfl
theorem bI_t : bI true = 1 := rfl
theorem bI_f : bI false = 0 := rfl
/-- x is among the first n of f -/
def pEq (f : Nat → Int32) (x : Int32) : Nat → Bool
  | 0 => false
  | n + 1 => pEq f x n || decide (f n = x)
theorem pEq_hit {f : Nat → Int32} {x : Int32} {i : Nat} (h : f i = x) : ∀ {n : Nat}, i < n → pEq f x n = true
  | 0, hi => absurd hi (Nat.not_lt_zero _)
  | n + 1, hi => by
    by_cases e : i = n
    · subst e
      simp [pEq, h]
    · simp [pEq, pEq_hit h (show i < n by omega)]
theorem pEq_step {f : Nat → Int32} {x : Int32} {n : Nat} (h : pEq f x n = false) (h2 : ¬ f n = x) : pEq f x (n + 1) = false := by simp [pEq, h, h2]
theorem pEq_of {f : Nat → Int32} {x : Int32} : ∀ {n : Nat}, pEq f x n = true → ∃ i, i < n ∧ f i = x
  | 0, h => by simp [pEq] at h
  | n + 1, h => by
    simp only [pEq, Bool.or_eq_true, decide_eq_true_eq] at h
    rcases h with h | h
    · obtain ⟨i, h1, h2⟩ := pEq_of h
      exact ⟨i, by omega, h2⟩
    · exact ⟨n, by omega, h⟩
theorem pEq_no {f : Nat → Int32} {x : Int32} {n i : Nat} (h : pEq f x n = false) (hi : i < n) : ¬ f i = x := fun e => by
  rw [pEq_hit e hi] at h
  cases h
theorem pEq_congr {f g : Nat → Int32} {x : Int32} : ∀ {n : Nat}, (∀ i, i < n → f i = g i) → pEq f x n = pEq g x n
  | 0, _ => rfl
  | n + 1, h => by
    simp only [pEq]
    rw [pEq_congr (fun i hi => h i (by omega)), h n (by omega)]
/-- two rows are the same up to n -/
def pSm (f g : Nat → Int32) : Nat → Bool
  | 0 => true
  | n + 1 => pSm f g n && decide (f n = g n)
theorem pSm_step {f g : Nat → Int32} {n : Nat} (h : pSm f g n = true) (h2 : f n = g n) : pSm f g (n + 1) = true := by simp [pSm, h, h2]
theorem pSm_no {f g : Nat → Int32} {i : Nat} (h : ¬ f i = g i) : ∀ {n : Nat}, i < n → pSm f g n = false
  | 0, hi => absurd hi (Nat.not_lt_zero _)
  | n + 1, hi => by
    by_cases e : i = n
    · subst e
      simp [pSm, h]
    · simp [pSm, pSm_no h (show i < n by omega)]
/-- a row of the picture: its size at the place q0, its items at the places lo i -/
def gRow (np k : Nat) (q0 : Nat × Nat × Nat) (lo : Nat → Nat × Nat × Nat) (cap : Nat) : Prop := k + 1 < 94 + 5 * np ∧ gk k = 3 ∧ gk (k + 1) = 8 ∧ gn (k + 1) = cap ∧ cap < 1000 ∧ gv np q0 ∧ gi q0 = (k, 1) ∧ ∀ i, i < cap → gv np (lo i) ∧ gi (lo i) = (k + 1, i)
theorem gRow_ne {np k : Nat} {q0 : Nat × Nat × Nat} {lo : Nat → Nat × Nat × Nat} {cap i : Nat} (h : gRow np k q0 lo cap) (hi : i < cap) : q0 ≠ lo i := by
  intro e
  have h1 := h.2.2.2.2.2.2.1
  rw [e, (h.2.2.2.2.2.2.2 i hi).2] at h1
  exact absurd (congrArg Prod.fst h1) (show ¬ k + 1 = k by omega)
theorem gRow_22 (np : Nat) : gRow np 22 (0, 0, 12) (fun i => (0, 11, i)) 6 := ⟨by omega, rfl, rfl, rfl, by decide, gv_0_0_12 _, rfl, fun i hi => ⟨gv_0_11 hi, gi_0_11 i⟩⟩
theorem gRow_25 (np : Nat) : gRow np 25 (0, 0, 21) (fun i => (0, 12, i)) 32 := ⟨by omega, rfl, rfl, rfl, by decide, gv_0_0_21 _, rfl, fun i hi => ⟨gv_0_12 hi, gi_0_12 i⟩⟩
theorem gRow_27 (np : Nat) : gRow np 27 (1, 2, 0) (fun i => (0, 13, i)) 32 := ⟨by omega, rfl, rfl, rfl, by decide, gv_1_2_0 _, rfl, fun i hi => ⟨gv_0_13 hi, gi_0_13 i⟩⟩
theorem gRow_29 (np : Nat) : gRow np 29 (0, 0, 23) (fun i => (0, 14, i)) 32 := ⟨by omega, rfl, rfl, rfl, by decide, gv_0_0_23 _, rfl, fun i hi => ⟨gv_0_14 hi, gi_0_14 i⟩⟩
theorem gRow_31 (np : Nat) : gRow np 31 (0, 0, 25) (fun i => (0, 15, i)) 32 := ⟨by omega, rfl, rfl, rfl, by decide, gv_0_0_25 _, rfl, fun i hi => ⟨gv_0_15 hi, gi_0_15 i⟩⟩
theorem gRow_35 (np : Nat) : gRow np 35 (1, 2, 1) (fun i => (1, 3, i)) 32 := ⟨by omega, rfl, rfl, rfl, by decide, gv_1_2_1 _, rfl, fun i hi => ⟨gv_1_3 hi, gi_1_3 i⟩⟩
theorem gRow_b {np p : Nat} (hp : p < np) : gRow np (gp p + 1) (0, 5, p) (fun i => (0, 4, 8 * p + i)) 8 := ⟨by unfold gp; omega, gk_p1 p, gk_p2 p, gn_p2 p, by decide, gv_0_5 hp, gi_0_5 p, fun i hi => ⟨gv_0_4 hp hi, gi_0_4 p hi⟩⟩
theorem gRow_l {np p : Nat} (hp : p < np) : gRow np (gp p + 3) (0, 7, p) (fun i => (0, 6, 5 * p + i)) 5 := ⟨by unfold gp; omega, gk_p3 p, gk_p4 p, gn_p4 p, by decide, gv_0_7 hp, gi_0_7 p, fun i hi => ⟨gv_0_6 hp hi, gi_0_6 p hi⟩⟩
