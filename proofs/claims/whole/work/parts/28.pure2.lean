/-! Pure words for the reference's way of doing it. -/
theorem gu_comm {a : gA} {k j k' j' : Nat} {v v' : Int32} (h : ¬ (k = k' ∧ j = j')) : gu (gu a k j v) k' j' v' = gu (gu a k' j' v') k j v := by
  funext r i
  by_cases e : r = k' ∧ i = j'
  · obtain ⟨rfl, rfl⟩ := e
    rw [gu_hit, gu_off (fun q => h ⟨q.1.symm, q.2.symm⟩), gu_hit]
  · rw [gu_off e]
    by_cases e2 : r = k ∧ i = j
    · obtain ⟨rfl, rfl⟩ := e2
      rw [gu_hit, gu_hit]
    · rw [gu_off e2, gu_off e2, gu_off e]
theorem sAF_gu0 {a : gA} {j : Nat} {v w : Int32} : ∀ n, sAF (gu a 0 j v) w n = gu (sAF a w n) 0 j v
  | 0 => rfl
  | n + 1 => by
    show gu (sAF (gu a 0 j v) w n) 16 n w = gu (gu (sAF a w n) 16 n w) 0 j v
    rw [sAF_gu0 n, gu_comm (by omega)]
theorem sQ_gu13 {a : gA} {p d v : Int32} : sQ (gu a 0 13 v) p d = gu (sQ a p d) 0 13 v := by
  have h1 : gu a 0 13 v 12 = a 12 := gu_ne (by decide)
  have h2 : cn (gu a 0 13 v) 21 = cn a 21 := by unfold cn; rw [gu_off (by omega)]
  unfold sQ
  rw [h1, h2]
  split
  · rfl
  · unfold sQ2
    rw [gu_comm (k := 0) (j := 13) (by omega), gu_comm (k := 0) (j := 13) (by omega), gu_comm (k := 0) (j := 13) (by omega)]
theorem sQA_gu13 {f : Nat → Int32} {d v : Int32} {a : gA} : ∀ n, sQA f d (gu a 0 13 v) n = gu (sQA f d a n) 0 13 v
  | 0 => rfl
  | n + 1 => by
    show sQ (sQA f d (gu a 0 13 v) n) (f n) d = gu (sQ (sQA f d a n) (f n) d) 0 13 v
    rw [sQA_gu13 n, sQ_gu13]
theorem sMk_gu13 {a : gA} {v : Int32} : sMk (gu a 0 13 v) = gu (sMk a) 0 13 v := by
  unfold sMk
  rw [gu_comm (k := 0) (j := 13) (by omega), gu_comm (k := 0) (j := 13) (by omega), gu_comm (k := 0) (j := 13) (by omega), gu_comm (k := 0) (j := 13) (by omega), gu_comm (k := 0) (j := 13) (by omega)]
  rfl
def sB1 (a : gA) (w1 w2 w3 w4 : Int32) : gA := gu (gu (gu (gu (gu (gu (gu (gu (gu (gu (gu a 0 13 1) 0 14 w1) 0 15 w2) 0 16 w3) 0 17 w4) 0 20 0) 0 21 0) 0 23 0) 0 25 0) 0 26 0) 0 28 0
theorem sB1_eq (a : gA) (w1 w2 w3 w4 : Int32) : sB1 a w1 w2 w3 w4 = gu (sB0 a w1 w2 w3 w4) 0 13 1 := by
  unfold sB1 sB0
  rw [nI_0]
  rw [gu_comm (k := 0) (j := 13) (by omega), gu_comm (k := 0) (j := 13) (by omega), gu_comm (k := 0) (j := 13) (by omega), gu_comm (k := 0) (j := 13) (by omega), gu_comm (k := 0) (j := 13) (by omega), gu_comm (k := 0) (j := 13) (by omega), gu_comm (k := 0) (j := 13) (by omega), gu_comm (k := 0) (j := 13) (by omega), gu_comm (k := 0) (j := 13) (by omega), gu_comm (k := 0) (j := 13) (by omega)]
  rw [gu_comm (k := 0) (j := 20) (k' := 0) (j' := 21) (by omega), gu_comm (k := 0) (j := 20) (k' := 0) (j' := 23) (by omega), gu_comm (k := 0) (j := 20) (k' := 0) (j' := 25) (by omega)]
theorem sB1_end (a : gA) (w1 w2 w3 w4 : Int32) (k : Nat) : sMk (sQA (a 11) 0 (sAF (sB1 a w1 w2 w3 w4) 0 6) k) = gu (sMk (sQA (a 11) 0 (sAF (sB0 a w1 w2 w3 w4) 0 6) k)) 0 13 1 := by
  rw [sB1_eq, sAF_gu0, sQA_gu13, sMk_gu13]
theorem tm_le {a : gA} {h : Nat} (e : a 0 26 ≤ a 16 h) : a 16 h = tm a h := by
  unfold tm
  by_cases c : a 0 26 < a 16 h
  · rw [if_pos c]
  · rw [if_neg c]
    exact Int32.le_antisymm (Int32.not_lt.mp c) e
theorem tm_gt {a : gA} {h : Nat} (e : ¬ a 0 26 ≤ a 16 h) : a 0 26 = tm a h := by
  unfold tm
  rw [if_neg (fun c => e (Int32.le_of_lt c))]
theorem alS_gt {pr al : Nat → Int32} {y i : Nat} {t : Int32} (ht : t = tkI (pr i).toNatClampNeg y) (h : (alS pr al y i).1 < t) : alS pr al y (i + 1) = (t, decide (¬ al i = 0)) := by
  subst ht
  exact if_pos h
theorem alS_eq {pr al : Nat → Int32} {y i : Nat} {t : Int32} (ht : t = tkI (pr i).toNatClampNeg y) (h1 : t ≤ (alS pr al y i).1) (h2 : t = (alS pr al y i).1) (h3 : ¬ t < 0) {b : Bool} (hb : ((alS pr al y i).2 || decide (¬ al i = 0)) = b) : alS pr al y (i + 1) = ((alS pr al y i).1, b) := by
  subst ht
  subst hb
  exact (if_neg (Int32.not_lt.mpr h1)).trans (if_pos ⟨h2, Int32.not_lt.mp h3⟩)
theorem alS_no {pr al : Nat → Int32} {y i : Nat} {t : Int32} (ht : t = tkI (pr i).toNatClampNeg y) (h1 : t ≤ (alS pr al y i).1) (h2 : ¬ t = (alS pr al y i).1 ∨ t < 0) : alS pr al y (i + 1) = alS pr al y i := by
  subst ht
  exact (if_neg (Int32.not_lt.mpr h1)).trans (if_neg (fun q => h2.elim (fun z => z q.1) (fun z => absurd q.2 (Int32.not_le.mpr z))))
theorem bI_of {z : Int32} (h : z = 0 ∨ z = 1) : z = bI (decide (¬ z = 0)) := by
  rcases h with rfl | rfl <;> rfl
theorem pEq_s {f : Nat → Int32} {x : Int32} {n : Nat} : pEq f x (n + 1) = (pEq f x n || decide (f n = x)) := rfl
def pP (a : gA) (h q : Int32) : Bool := decide (a 0 13 = 0) && (sIn h 0 5 && (sIn q 1 999999 && (decide (cn a 0 < 32) && !sDup a h q (cn a 0))))
def rP (a : gA) (h q : Int32) : Int32 := if pP a h q = true then nI (cn a 0) else -1
def sP (a : gA) (h q : Int32) : gA := if pP a h q = true then gu (gu (gu (gu a 1 (cn a 0) h) 2 (cn a 0) q) 3 (cn a 0) (-2)) 0 0 (nI (cn a 0 + 1)) else a
theorem dgF_s {f x : Nat} (h : 0 < x) : dgF (f + 1) x = dgF f (x / 10) + 1 := by
  show (if x = 0 then 0 else dgF f (x / 10) + 1) = _
  rw [if_neg (by omega)]
