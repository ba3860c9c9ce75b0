/-! Rules: digits, prefixes, and that the class's way of taking the longest is the reference's. -/
theorem i_irr (x : Int32) : ¬ x < x := fun h => Int32.lt_irrefl h
def dgF : Nat → Nat → Nat
  | 0, _ => 0
  | f + 1, x => if x = 0 then 0 else dgF f (x / 10) + 1
def pfF : Nat → Nat → Nat → Bool
  | 0, _, _ => false
  | f + 1, y, x => if y = 0 then false else (decide (y = x) || pfF f (y / 10) x)
def tkI (x y : Nat) : Int32 := if pfF 10 y x = true then nI (dgF 10 x) else if x = 0 then 0 else -1
theorem dgF_0 : ∀ f, dgF f 0 = 0
  | 0 => rfl
  | _ + 1 => rfl
theorem dgF_mono : ∀ (f : Nat) {x y : Nat}, x ≤ y → dgF f x ≤ dgF f y
  | 0, _, _, _ => Nat.le_refl _
  | f + 1, x, y, h => by
    unfold dgF
    by_cases hx : x = 0
    · rw [if_pos hx]; exact Nat.zero_le _
    · rw [if_neg hx, if_neg (by omega)]
      exact Nat.succ_le_succ (dgF_mono f (Nat.div_le_div_right h))
theorem dgF_succ : ∀ (f : Nat) {x : Nat}, x < 10 ^ f → dgF (f + 1) x = dgF f x
  | 0, x, h => by
    have : x = 0 := by simpa using h
    subst this
    rfl
  | f + 1, x, h => by
    by_cases hx : x = 0
    · subst hx; rfl
    · show (if x = 0 then 0 else dgF (f + 1) (x / 10) + 1) = (if x = 0 then 0 else dgF f (x / 10) + 1)
      rw [if_neg hx, if_neg hx, dgF_succ f (by rw [Nat.pow_succ] at h; omega)]
theorem dgF_div {x : Nat} (hx : 0 < x) (h : x < 10 ^ 10) : dgF 10 x = dgF 10 (x / 10) + 1 := by
  show (if x = 0 then 0 else dgF 9 (x / 10) + 1) = _
  rw [if_neg (by omega), dgF_succ 9 (by omega)]
theorem pfF_head : ∀ (f : Nat) {y x : Nat}, pfF f y x = true → 0 < x ∧ ∃ k, x = y / 10 ^ k
  | 0, _, _, h => by simp [pfF] at h
  | f + 1, y, x, h => by
    unfold pfF at h
    by_cases hy : y = 0
    · rw [if_pos hy] at h; cases h
    · rw [if_neg hy, Bool.or_eq_true, decide_eq_true_eq] at h
      rcases h with h | h
      · exact ⟨by omega, 0, by simp [h]⟩
      · obtain ⟨h1, k, h2⟩ := pfF_head f h
        exact ⟨h1, k + 1, by rw [h2, Nat.div_div_eq_div_mul, Nat.pow_succ, Nat.mul_comm]⟩
def hdP (y x : Nat) : Bool := pfF 10 y x || decide (x = 0)
theorem hdP_lt {y x1 x2 : Nat} (hy : y < 10 ^ 10) (h1 : hdP y x1 = true) (h2 : hdP y x2 = true) (h : x2 < x1) : dgF 10 x2 < dgF 10 x1 := by
  unfold hdP at h1 h2
  simp only [Bool.or_eq_true, decide_eq_true_eq] at h1 h2
  rcases h1 with h1 | h1
  · obtain ⟨p1, i, e1⟩ := pfF_head 10 h1
    have hx1 : x1 < 10 ^ 10 := Nat.lt_of_le_of_lt (by rw [e1]; exact Nat.div_le_self _ _) hy
    rw [dgF_div p1 hx1]
    refine Nat.lt_succ_of_le (dgF_mono 10 ?_)
    rcases h2 with h2 | h2
    · obtain ⟨p2, j, e2⟩ := pfF_head 10 h2
      have hij : i < j := by
        refine Nat.lt_of_not_le fun hji => ?_
        have : y / 10 ^ i ≤ y / 10 ^ j := Nat.div_le_div_left (Nat.pow_le_pow_right (by omega) hji) (Nat.pow_pos (by omega))
        omega
      rw [e1, e2, Nat.div_div_eq_div_mul, ← Nat.pow_succ]
      exact Nat.div_le_div_left (Nat.pow_le_pow_right (by omega) hij) (Nat.pow_pos (by omega))
    · omega
  · omega
theorem dgF_le : ∀ (f x : Nat), dgF f x ≤ f
  | 0, _ => Nat.le_refl _
  | f + 1, x => by
    unfold dgF
    by_cases hx : x = 0
    · rw [if_pos hx]; exact Nat.zero_le _
    · rw [if_neg hx]; exact Nat.succ_le_succ (dgF_le f _)
theorem tkI_hd {x y : Nat} (h : hdP y x = true) : tkI x y = nI (dgF 10 x) := by
  unfold tkI
  by_cases hp : pfF 10 y x = true
  · rw [if_pos hp]
  · unfold hdP at h
    simp only [hp, Bool.false_or, decide_eq_true_eq] at h
    rw [if_neg hp, if_pos h, h]
    rfl
theorem tkI_no {x y : Nat} (h : hdP y x = false) : tkI x y = -1 := by
  unfold hdP at h
  simp only [Bool.or_eq_false_iff, decide_eq_false_iff_not] at h
  unfold tkI
  rw [if_neg (by rw [h.1]; decide), if_neg h.2]
/-- the reference's walk over the rules of a host -/
def alS (pr al : Nat → Int32) (y : Nat) : Nat → Int32 × Bool
  | 0 => (-1, true)
  | i + 1 =>
    if (alS pr al y i).1 < tkI (pr i).toNatClampNeg y then (tkI (pr i).toNatClampNeg y, decide (¬ al i = 0))
    else if tkI (pr i).toNatClampNeg y = (alS pr al y i).1 ∧ 0 ≤ tkI (pr i).toNatClampNeg y then ((alS pr al y i).1, (alS pr al y i).2 || decide (¬ al i = 0))
    else alS pr al y i
/-- the class's -/
def caS (pr al : Nat → Int32) (y : Nat) : Nat → Int32 × Bool
  | 0 => (-1, true)
  | i + 1 =>
    if pr i < (caS pr al y i).1 ∨ hdP y (pr i).toNatClampNeg = false then caS pr al y i
    else (pr i, decide (¬ al i = 0) || (decide (pr i = (caS pr al y i).1) && (caS pr al y i).2))
theorem caS_alS {pr al : Nat → Int32} {y : Nat} (hy : y < 10 ^ 10) : ∀ (n : Nat), (∀ i, i < n → ∃ x, x ≤ 999999 ∧ pr i = nI x) →
    (caS pr al y n).2 = (alS pr al y n).2 ∧ (((caS pr al y n).1 = -1 ∧ (alS pr al y n).1 = -1) ∨ ∃ x, x ≤ 999999 ∧ hdP y x = true ∧ (caS pr al y n).1 = nI x ∧ (alS pr al y n).1 = nI (dgF 10 x))
  | 0, _ => ⟨rfl, Or.inl ⟨rfl, rfl⟩⟩
  | n + 1, hp => by
    obtain ⟨h2, h1⟩ := caS_alS hy n (fun i hi => hp i (by omega))
    obtain ⟨x, hx, ex⟩ := hp n (by omega)
    have hcl : (pr n).toNatClampNeg = x := by rw [ex]; exact nI_clamp (by omega)
    have m1 : (-1 : Int32) < nI x := Int32.lt_iff_toInt_lt.mpr (by rw [nI_toInt (by omega)]; show (-1 : Int) < _; omega)
    have md : ∀ d, d ≤ 10 → (-1 : Int32) < nI d := fun d hd => Int32.lt_iff_toInt_lt.mpr (by rw [nI_toInt (by omega)]; show (-1 : Int) < _; omega)
    have ne1 : ∀ d, d ≤ 999999 → ¬ nI d = (-1 : Int32) := fun d hd e => by
      have := congrArg Int32.toInt e
      rw [nI_toInt (by omega)] at this
      exact absurd this (by show ¬ ((d : Int) = -1); omega)
    simp only [caS, alS]
    rw [hcl]
    cases hh : hdP y x with
    | false =>
      rw [tkI_no hh, if_pos (Or.inr rfl)]
      have ha : ¬ (alS pr al y n).1 < -1 := by
        rcases h1 with ⟨_, e⟩ | ⟨x0, hx0, _, _, e⟩
        · rw [e]; decide
        · rw [e]
          exact fun q => absurd (Int32.lt_trans q (md _ (dgF_le 10 x0))) (i_irr _)
      rw [if_neg ha, if_neg (fun q => absurd q.2 (by decide))]
      exact ⟨h2, h1⟩
    | true =>
      rw [tkI_hd hh]
      have hd := dgF_le 10 x
      rcases h1 with ⟨e1, e2⟩ | ⟨x0, hx0, hh0, e1, e2⟩
      · rw [e1, e2, if_neg (by
          rintro (q | q)
          · rw [ex] at q
            exact absurd (Int32.lt_trans q m1) (i_irr _)
          · cases q), if_pos (md _ hd)]
        refine ⟨?_, Or.inr ⟨x, hx, hh, ex, rfl⟩⟩
        show (_ || (decide (pr n = -1) && _)) = _
        rw [decide_eq_false (p := pr n = -1) (by rw [ex]; exact ne1 x hx), Bool.false_and, Bool.or_false]
      · have hd0 := dgF_le 10 x0
        rw [e1, e2, ex]
        rcases Nat.lt_trichotomy x x0 with c | c | c
        · have hlt := hdP_lt hy hh0 hh c
          rw [if_pos (Or.inl ((nI_ltI (by omega) (by omega)).mpr c)), if_neg (fun q => absurd ((nI_ltI (by omega) (by omega)).mp q) (by omega)), if_neg (fun q => absurd ((nI_eq (by omega) (by omega)).mp q.1) (by omega))]
          exact ⟨h2, Or.inr ⟨x0, hx0, hh0, e1, e2⟩⟩
        · subst c
          rw [if_neg (by
            rintro (q | q)
            · exact absurd q (i_irr _)
            · cases q), if_neg (i_irr _), if_pos ⟨rfl, nI_pos' (by omega)⟩]
          refine ⟨?_, Or.inr ⟨x, hx, hh, rfl, rfl⟩⟩
          show (_ || (decide (nI x = nI x) && _)) = (_ || _)
          rw [decide_eq_true (p := nI x = nI x) rfl, Bool.true_and, h2, Bool.or_comm]
        · have hlt := hdP_lt hy hh hh0 c
          rw [if_neg (by
            rintro (q | q)
            · exact absurd ((nI_ltI (by omega) (by omega)).mp q) (by omega)
            · cases q), if_pos ((nI_ltI (by omega) (by omega)).mpr hlt)]
          refine ⟨?_, Or.inr ⟨x, hx, hh, rfl, rfl⟩⟩
          show (_ || (decide (nI x = nI x0) && _)) = _
          rw [decide_eq_false (p := nI x = nI x0) (fun q => absurd ((nI_eq (by omega) (by omega)).mp q) (by omega)), Bool.false_and, Bool.or_false]
