/-! The calls, as answers and steps of the abstract state. -/
theorem gu_id {a : gA} {k j : Nat} {v : Int32} (h : a k j = v) : gu a k j v = a := by
  funext k' j'
  by_cases e : k' = k ∧ j' = j
  · obtain ⟨rfl, rfl⟩ := e
    rw [gu_hit, h]
  · exact gu_off e
def pW (a : gA) (p w : Int32) : Bool := (decide (a 0 13 = 0) && sIs a p) && (sIn w 0 25 && decide ((a 5 p.toNatClampNeg).toNatClampNeg < 8))
def sW (a : gA) (p w : Int32) : gA := if pW a p w = true then gu (gu a 4 (8 * p.toNatClampNeg + (a 5 p.toNatClampNeg).toNatClampNeg) w) 5 p.toNatClampNeg (nI ((a 5 p.toNatClampNeg).toNatClampNeg + 1)) else a
def pK (a : gA) (p w : Int32) : Bool := (decide (a 0 13 = 0) && sIs a p) && (sIs a w && decide ((a 7 p.toNatClampNeg).toNatClampNeg < 5))
def sK (a : gA) (p w : Int32) : gA := if pK a p w = true then gu (gu a 6 (5 * p.toNatClampNeg + (a 7 p.toNatClampNeg).toNatClampNeg) w) 7 p.toNatClampNeg (nI ((a 7 p.toNatClampNeg).toNatClampNeg + 1)) else a
def pM (a : gA) (p w : Int32) : Bool := (decide (a 0 13 = 0) && sIs a p) && sIs a w
def sM (a : gA) (p w : Int32) : gA := if pM a p w = true then gu a 3 p.toNatClampNeg w else a
def pD (a : gA) (p : Int32) : Bool := decide (a 0 13 = 0) && sIs a p
def sD (a : gA) (p : Int32) : gA := if pD a p = true then gu a 3 p.toNatClampNeg (-3) else a
def pR (a : gA) (h w : Int32) : Bool := decide (a 0 13 = 0) && (sIn h 0 5 && (sIn w 0 999999 && decide ((a 10 h.toNatClampNeg).toNatClampNeg < 4)))
def sR (a : gA) (h w b : Int32) : gA := if pR a h w = true then gu (gu (gu a 8 (4 * h.toNatClampNeg + (a 10 h.toNatClampNeg).toNatClampNeg) w) 9 (4 * h.toNatClampNeg + (a 10 h.toNatClampNeg).toNatClampNeg) b) 10 h.toNatClampNeg (nI ((a 10 h.toNatClampNeg).toNatClampNeg + 1)) else a
def pF (a : gA) (p : Int32) : Bool := (decide (a 0 13 = 0) && sIs a p) && decide (cn a 12 < 6)
def sF (a : gA) (p : Int32) : gA := if pF a p = true then gu (gu a 11 (cn a 12) p) 0 12 (nI (cn a 12 + 1)) else a
def pB (a : gA) (w1 w2 w3 w4 : Int32) : Bool := decide (a 0 13 = 0) && (decide (¬ a 0 12 = 0) && (sIn w1 0 6 && (sIn w2 0 4 && (sIn w3 0 9 && sIn w4 1 8))))
def sB (a : gA) (w1 w2 w3 w4 : Int32) : gA := if pB a w1 w2 w3 w4 = true then gu (sSt a w1 w2 w3 w4) 0 13 1 else a
def sWk (a : gA) : Nat → gA
  | 0 => a
  | n + 1 => if cn (sWk a n) 20 < cn (sWk a n) 21 then sH (sWk a n) else sWk a n
def pWk (a : gA) (n : Int32) : Bool := decide (¬ a 0 13 = 0) && sIn n 1 10
def rWk (a : gA) (n : Int32) : Int32 := if pWk a n = true then sWk a n.toNatClampNeg 0 28 - a 0 28 else -1
def sWo (a : gA) (n : Int32) : gA := if pWk a n = true then sWk a n.toNatClampNeg else a
def rCr (a : gA) : Int32 := if a 0 13 = 0 then -1 else a 0 33
def sCra (a : gA) : gA := if a 0 13 = 0 then a else sCr a
def rFo (a : gA) (p : Int32) : Int32 := if a 0 13 = 0 ∨ sIs a p = false then -1 else sC2 a (cn a 15 + 1) p.toNatClampNeg
def rAt (a : gA) (i : Int32) : Int32 := if a 0 13 = 0 then -1 else if 0 ≤ i ∧ i < a 0 25 then a 15 i.toNatClampNeg else -1
theorem sWk_stop {a : gA} {i : Nat} (h : ¬ cn (sWk a i) 20 < cn (sWk a i) 21) : ∀ k, sWk a (i + k) = sWk a i
  | 0 => rfl
  | k + 1 => by
    show (if cn (sWk a (i + k)) 20 < cn (sWk a (i + k)) 21 then sH (sWk a (i + k)) else sWk a (i + k)) = _
    rw [sWk_stop h k, if_neg h]
theorem sWk_wf {np : Nat} {a : gA} (hw : WFw np a) (hg : WFg np a) : ∀ n, WFw np (sWk a n) ∧ WFg np (sWk a n)
  | 0 => ⟨hw, hg⟩
  | n + 1 => by
    obtain ⟨h1, h2⟩ := sWk_wf hw hg n
    show WFw np (if _ then _ else _) ∧ WFg np (if _ then _ else _)
    split
    · rename_i c
      exact ⟨WFw_wk (wk_sH _) h1, WFg_sH h1 h2 c⟩
    · exact ⟨h1, h2⟩
theorem sIn_of {w : Int32} {lo hi : Nat} (hl : lo < 2 ^ 30) (hh : hi < 2 ^ 30) (h : sIn w (nI lo) (nI hi) = true) : ∃ n, lo ≤ n ∧ n ≤ hi ∧ w = nI n := by
  unfold sIn at h
  rw [Bool.and_eq_true, decide_eq_true_eq, decide_eq_true_eq] at h
  rcases pk_ix w (n := hi + 1) (by omega) with q | q | ⟨j, hj, rfl⟩
  · exact absurd (Int32.lt_of_lt_of_le q (Int32.le_trans (nI_pos' (by omega)) h.1)) (i_irr _)
  · exact absurd (Int32.le_trans q h.2) (Int32.not_le.mpr (nI_lt (by omega) (by omega)))
  · exact ⟨j, (nI_leI (by omega) (by omega)).mp h.1, by omega, rfl⟩
