/-! Documents, ranks, scores: specs. -/
def sBd (a : gA) (P Q1 : Nat) : Bool := decide ((a 5 P).toNatClampNeg = (a 5 Q1).toNatClampNeg) && pSm (fun i => a 4 (8 * P + i)) (fun i => a 4 (8 * Q1 + i)) (a 5 P).toNatClampNeg
theorem pSm_down {f g : Nat → Int32} {i : Nat} (h : pSm f g i = false) : ∀ k, pSm f g (i + k) = false
  | 0 => h
  | k + 1 => by
    show (pSm f g (i + k) && _) = false
    rw [pSm_down h k, Bool.false_and]
def sDo (a : gA) (P : Nat) : Nat → Int32
  | 0 => -1
  | n + 1 => if sDo a P n = -1 then (if sBd a (a 15 n).toNatClampNeg P = true then a 15 n else -1) else sDo a P n
theorem sDo_no {a : gA} {P i : Nat} (h : sDo a P i = -1) (h2 : sBd a (a 15 i).toNatClampNeg P = false) : sDo a P (i + 1) = -1 := by
  show (if sDo a P i = -1 then _ else _) = _
  rw [if_pos h, if_neg (by rw [h2]; decide)]
theorem sDo_hit {a : gA} {P i : Nat} (h : sDo a P i = -1) (h2 : sBd a (a 15 i).toNatClampNeg P = true) (hne : ¬ a 15 i = -1) : ∀ k, sDo a P (i + 1 + k) = a 15 i
  | 0 => by
    show (if sDo a P i = -1 then _ else _) = _
    rw [if_pos h, if_pos h2]
  | k + 1 => by
    have ih := sDo_hit h h2 hne k
    exact (if_neg (fun q => hne (ih.symm.trans q))).trans ih
theorem sDo_pg {np ng : Nat} {a : gA} (hd : dst (a 15) ng np) (P : Nat) : ∀ n, n ≤ ng → sDo a P n = -1 ∨ ∃ q, q < np ∧ sDo a P n = nI q
  | 0, _ => Or.inl rfl
  | n + 1, h => by
    unfold sDo
    split
    · split
      · exact Or.inr (hd.1 n (by omega))
      · exact Or.inl rfl
    · exact sDo_pg hd P n (by omega)
/-- the document of a page -/
def rDo (a : gA) (w : Int32) : Int32 := if pEq (a 15) w (cn a 25) = false then -1 else sDo a w.toNatClampNeg (cn a 25)
theorem rDo_pg {np ng : Nat} {a : gA} (hg : a 0 25 = nI ng) (hd : dst (a 15) ng np) (hnp : np ≤ 32) (w : Int32) : rDo a w = -1 ∨ ∃ q, q < np ∧ rDo a w = nI q := by
  have := dst_le hd hnp
  unfold rDo
  rw [cn_of hg (by omega)]
  split
  · exact Or.inl rfl
  · exact sDo_pg hd _ ng (Nat.le_refl _)
def sIsD (a : gA) (w : Int32) : Bool := decide (0 ≤ w) && decide (rDo a w = w)
theorem rDo_m1 {np ng : Nat} {a : gA} (hg : a 0 25 = nI ng) (hd : dst (a 15) ng np) (hnp : np ≤ 32) {w : Int32} (hw : w < 0) : rDo a w = -1 := by
  have h32 := dst_le hd hnp
  unfold rDo
  rw [cn_of hg (by omega)]
  cases e : pEq (a 15) w ng with
  | false => rfl
  | true =>
    obtain ⟨i, hi, e1⟩ := pEq_of e
    obtain ⟨q, hq, e2⟩ := hd.1 i hi
    exact absurd hw (by rw [← e1, e2]; exact nI_pos (by omega))
def lkN (a : gA) (e : Nat) : Nat := (a 7 e).toNatClampNeg
/-- where a link leads -/
def ld (a : gA) (hp e k : Nat) : Int32 := rDo a (sC2 a (hp + 1) (a 6 (5 * e + k)).toNatClampNeg)
def usN (a : gA) (hp e : Nat) : Nat → Nat
  | 0 => 0
  | k + 1 => if ld a hp e k = -1 then usN a hp e k else usN a hp e k + 1
def hrN (a : gA) (hp e : Nat) (d : Int32) : Nat → Nat
  | 0 => 0
  | k + 1 => if ld a hp e k = d then hrN a hp e d k + 1 else hrN a hp e d k
theorem hrN_us {a : gA} {hp e : Nat} {d : Int32} (hd : ¬ d = -1) : ∀ k, hrN a hp e d k ≤ usN a hp e k
  | 0 => Nat.le_refl _
  | k + 1 => by
    have := hrN_us (a := a) (hp := hp) (e := e) hd k
    show (if ld a hp e k = d then _ else _) ≤ (if ld a hp e k = -1 then _ else _)
    by_cases c : ld a hp e k = d
    · rw [if_pos c, if_neg (by rw [c]; exact hd)]
      omega
    · rw [if_neg c]
      split <;> omega
theorem usN_le {a : gA} {hp e : Nat} : ∀ k, usN a hp e k ≤ k
  | 0 => Nat.le_refl _
  | k + 1 => by
    have := usN_le (a := a) (hp := hp) (e := e) k
    show (if ld a hp e k = -1 then _ else _) ≤ _
    split <;> omega
theorem hrN_le {a : gA} {hp e : Nat} {d : Int32} : ∀ k, hrN a hp e d k ≤ k
  | 0 => Nat.le_refl _
  | k + 1 => by
    have := hrN_le (a := a) (hp := hp) (e := e) (d := d) k
    show (if ld a hp e k = d then _ else _) ≤ _
    split <;> omega
def smF (a : gA) (hp : Nat) (rk : Nat → Int64) (d : Nat) : Nat → Int64
  | 0 => 0
  | i + 1 => if 0 < hrN a hp (a 15 i).toNatClampNeg (nI d) (lkN a (a 15 i).toNatClampNeg) ∧ sIsD a (a 15 i) = true then smF a hp rk d i + (nI (hrN a hp (a 15 i).toNatClampNeg (nI d) (lkN a (a 15 i).toNatClampNeg))).toInt64 * (rk (a 15 i).toNatClampNeg / (nI (usN a hp (a 15 i).toNatClampNeg (lkN a (a 15 i).toNatClampNeg))).toInt64) else smF a hp rk d i
def rkF (a : gA) (hp : Nat) : Nat → Nat → Int64
  | 0 => fun _ => 1000000
  | r + 1 => fun d => 150000 + 85 * smF a hp (rkF a hp r) d (cn a 25) / 100
def scF (a : gA) (hp : Nat) (v w : Int32) (P : Nat) : Int64 := if sIsD a (nI P) = true then (nI (pCt (fun i => a 4 (8 * P + i)) v w (a 5 P).toNatClampNeg)).toInt64 * rkF a hp 8 P else 0
def bfF (a : gA) (hp : Nat) (v w : Int32) (Q1 P : Nat) : Bool := if scF a hp v w Q1 = scF a hp v w P then sBef a Q1 P else decide (scF a hp v w P < scF a hp v w Q1)
def plF (a : gA) (hp : Nat) (v w : Int32) (P : Nat) : Nat → Nat
  | 0 => 0
  | j + 1 => if 0 < scF a hp v w (a 15 j).toNatClampNeg ∧ bfF a hp v w (a 15 j).toNatClampNeg P = true then plF a hp v w P j + 1 else plF a hp v w P j
theorem plF_le {a : gA} {hp : Nat} {v w : Int32} {P : Nat} : ∀ j, plF a hp v w P j ≤ j
  | 0 => Nat.le_refl _
  | j + 1 => by
    have := plF_le (a := a) (hp := hp) (v := v) (w := w) (P := P) j
    unfold plF
    split <;> omega
def bsF (a : gA) (hp : Nat) (v w k : Int32) : Nat → Int32
  | 0 => -1
  | i + 1 => if bsF a hp v w k i = -1 then (if 0 < scF a hp v w (a 15 i).toNatClampNeg ∧ nI (plF a hp v w (a 15 i).toNatClampNeg (cn a 25)) = k then a 15 i else -1) else bsF a hp v w k i
theorem bsF_no {a : gA} {hp : Nat} {v w k : Int32} {i : Nat} (h : bsF a hp v w k i = -1) (h2 : ¬ (0 < scF a hp v w (a 15 i).toNatClampNeg ∧ nI (plF a hp v w (a 15 i).toNatClampNeg (cn a 25)) = k)) : bsF a hp v w k (i + 1) = -1 := by
  show (if _ = -1 then _ else _) = _
  rw [if_pos h, if_neg h2]
theorem bsF_hit {a : gA} {hp : Nat} {v w k : Int32} {i : Nat} (h : bsF a hp v w k i = -1) (h2 : 0 < scF a hp v w (a 15 i).toNatClampNeg ∧ nI (plF a hp v w (a 15 i).toNatClampNeg (cn a 25)) = k) (hne : ¬ a 15 i = -1) : ∀ j, bsF a hp v w k (i + 1 + j) = a 15 i
  | 0 => by
    show (if _ = -1 then _ else _) = _
    rw [if_pos h, if_pos h2]
  | j + 1 => by
    have ih := bsF_hit h h2 hne j
    exact (if_neg (fun q => hne (ih.symm.trans q))).trans ih
def rDc (a : gA) (w : Int32) : Int32 := if a 0 13 = 0 then -1 else rDo a w
def rRk (a : gA) (w r : Int32) : Int64 := if a 0 13 = 0 ∨ sIsD a w = false ∨ sIn r 0 12 = false then 0 else rkF a (cn a 15) r.toNatClampNeg w.toNatClampNeg
def rBs (a : gA) (v w k : Int32) : Int32 := if a 0 13 = 0 then -1 else bsF a (cn a 15) v w k (cn a 25)
theorem sIsD_of {np ng : Nat} {a : gA} (hg : a 0 25 = nI ng) (hd : dst (a 15) ng np) (hnp : np ≤ 32) {w : Int32} (h : sIsD a w = true) : ∃ P, P < np ∧ w = nI P := by
  unfold sIsD at h
  rw [Bool.and_eq_true, decide_eq_true_eq, decide_eq_true_eq] at h
  rcases rDo_pg hg hd hnp w with e | ⟨q, hq, e⟩
  · exact absurd h.1 (by rw [← h.2, e]; decide)
  · exact ⟨q, hq, h.2.symm.trans e⟩
theorem i64_nz {n : Nat} (h0 : 0 < n) (h : n < 1000) : ¬ (nI n).toInt64 = 0 := by
  rw [nI_l (by omega)]
  intro e
  have := (lN_eq (a := n) (b := 0) (by omega) (by omega)).mp e
  omega
