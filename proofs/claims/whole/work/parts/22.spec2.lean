/-! The gathering's specs: rows without repeats, fetching, queueing, chasing, handling. -/
theorem pig : ∀ (np n : Nat) (f : Nat → Nat), (∀ i, i < n → f i < np) → (∀ i j, i < n → j < n → f i = f j → i = j) → n ≤ np
  | 0, n, f, h, _ => by
    cases n with
    | zero => exact Nat.le_refl _
    | succ n => exact absurd (h 0 (by omega)) (Nat.not_lt_zero _)
  | np + 1, n, f, h, hi => by
    by_cases he : ∃ i0, i0 < n ∧ f i0 = np
    · obtain ⟨i0, hi0, e0⟩ := he
      have := pig np (n - 1) (fun i => if i < i0 then f i else f (i + 1)) (fun i hin => by
        show (if i < i0 then f i else f (i + 1)) < np
        by_cases c : i < i0
        · rw [if_pos c]
          have h1 := h i (by omega)
          have h2 : f i ≠ np := fun e => absurd (hi i i0 (by omega) hi0 (e.trans e0.symm)) (by omega)
          omega
        · rw [if_neg c]
          have h1 := h (i + 1) (by omega)
          have h2 : f (i + 1) ≠ np := fun e => absurd (hi (i + 1) i0 (by omega) hi0 (e.trans e0.symm)) (by omega)
          omega) (fun i j hin hjn e => by
        have e : (if i < i0 then f i else f (i + 1)) = (if j < i0 then f j else f (j + 1)) := e
        by_cases ci : i < i0 <;> by_cases cj : j < i0
        · rw [if_pos ci, if_pos cj] at e
          exact hi i j (by omega) (by omega) e
        · rw [if_pos ci, if_neg cj] at e
          have := hi i (j + 1) (by omega) (by omega) e
          omega
        · rw [if_neg ci, if_pos cj] at e
          have := hi (i + 1) j (by omega) (by omega) e
          omega
        · rw [if_neg ci, if_neg cj] at e
          have := hi (i + 1) (j + 1) (by omega) (by omega) e
          omega)
      omega
    · have := pig np n f (fun i hin => by
        have h1 := h i hin
        have h2 : f i ≠ np := fun e => he ⟨i, hin, e⟩
        omega) hi
      omega
/-- a row of n different pages -/
def dst (f : Nat → Int32) (n np : Nat) : Prop := (∀ i, i < n → ∃ q, q < np ∧ f i = nI q) ∧ ∀ i j, i < n → j < n → f i = f j → i = j
theorem dst_le {f : Nat → Int32} {n np : Nat} (h : dst f n np) (hnp : np ≤ 32) : n ≤ np := by
  refine pig np n (fun i => (f i).toNatClampNeg) (fun i hi => ?_) (fun i j hi hj e => ?_)
  · obtain ⟨q, hq, e⟩ := h.1 i hi
    show (f i).toNatClampNeg < np
    rw [e, nI_clamp (by omega)]
    exact hq
  · obtain ⟨q, hq, e1⟩ := h.1 i hi
    obtain ⟨q2, hq2, e2⟩ := h.1 j hj
    have e : (f i).toNatClampNeg = (f j).toNatClampNeg := e
    rw [e1, e2, nI_clamp (by omega), nI_clamp (by omega)] at e
    exact h.2 i j hi hj (by rw [e1, e2, e])
theorem dst_push {f : Nat → Int32} {n np q : Nat} {x : Int32} (h : dst f n np) (hq : q < np) (hx : x = nI q) (hn : pEq f x n = false) : dst (upd f n x) (n + 1) np := by
  refine ⟨fun i hi => ?_, fun i j hi hj e => ?_⟩
  · by_cases c : i = n
    · subst c
      exact ⟨q, hq, pk_us.trans hx⟩
    · rw [pk_un c]
      exact h.1 i (by omega)
  · by_cases ci : i = n <;> by_cases cj : j = n
    · omega
    · subst ci
      rw [pk_us, pk_un cj] at e
      exact absurd e.symm (pEq_no hn (by omega))
    · subst cj
      rw [pk_us, pk_un ci] at e
      exact absurd e (pEq_no hn (by omega))
    · rw [pk_un ci, pk_un cj] at e
      exact h.2 i j (by omega) (by omega) e
theorem dst_cut {f : Nat → Int32} {n m np : Nat} (h : dst f n np) (hm : m ≤ n) : dst f m np := ⟨fun i hi => h.1 i (by omega), fun i j hi hj e => h.2 i j (by omega) (by omega) e⟩
theorem dst_mono {f : Nat → Int32} {n np np' : Nat} (h : dst f n np) (hm : np ≤ np') : dst f n np' := ⟨fun i hi => by obtain ⟨q, hq, e⟩ := h.1 i hi; exact ⟨q, by omega, e⟩, h.2⟩
theorem dst_room {f : Nat → Int32} {n np q : Nat} {x : Int32} (h : dst f n np) (hq : q < np) (hx : x = nI q) (hn : pEq f x n = false) (hnp : np ≤ 32) : n < 32 := by
  have := dst_le (dst_push h hq hx hn) hnp
  omega
def tm (a : gA) (h : Nat) : Int32 := if a 0 26 < a 16 h then a 16 h else a 0 26
def sFe2 (a : gA) (P h nf : Nat) : gA := gu (gu (gu (gu (gu a 16 h (tm a h + a 0 16)) 0 26 (tm a h + 1)) 14 nf (nI P)) 0 23 (nI (nf + 1))) 0 28 (a 0 28 + 1)
/-- a page is fetched -/
def sFe (a : gA) (P : Nat) : gA := if pEq (a 14) (nI P) (cn a 23) = true then a else sFe2 a P (a 1 P).toNatClampNeg (cn a 23)
theorem sFe_y {a : gA} {P nf : Nat} (hn : a 0 23 = nI nf) (hnf : nf < 2 ^ 31) (h : pEq (a 14) (nI P) nf = true) : sFe a P = a := by
  unfold sFe
  rw [cn_of hn hnf, if_pos h]
theorem sFe_n {a : gA} {P nf h : Nat} (hn : a 0 23 = nI nf) (hnf : nf < 2 ^ 31) (hh : a 1 P = nI h) (hh6 : h < 6) (hp : pEq (a 14) (nI P) nf = false) : sFe a P = sFe2 a P h nf := by
  unfold sFe
  rw [cn_of hn hnf, if_neg (by rw [hp]; decide), hh, nI_clamp (by omega)]
/-- all hosts' times -/
def sAF (a : gA) (w : Int32) : Nat → gA
  | 0 => a
  | n + 1 => gu (sAF a w n) 16 n w
def sMk (a : gA) : gA := gu (gu (gu (gu (gu a 0 29 (a 0 20)) 0 30 (a 0 21)) 0 31 (a 0 23)) 0 32 (a 0 25)) 0 33 0
def sQ2 (a : gA) (p d : Int32) (nq : Nat) : gA := gu (gu (gu a 12 nq p) 0 21 (nI (nq + 1))) 13 nq d
/-- a page is queued -/
def sQ (a : gA) (p d : Int32) : gA := if pEq (a 12) p (cn a 21) = true then a else sQ2 a p d (cn a 21)
def sQA (f : Nat → Int32) (d : Int32) (a : gA) : Nat → gA
  | 0 => a
  | n + 1 => sQ (sQA f d a n) (f n) d
theorem sQ_y {a : gA} {p d : Int32} {nq : Nat} (hn : a 0 21 = nI nq) (hnq : nq < 2 ^ 31) (h : pEq (a 12) p nq = true) : sQ a p d = a := by
  unfold sQ
  rw [cn_of hn hnq, if_pos h]
theorem sQ_n {a : gA} {p d : Int32} {nq : Nat} (hn : a 0 21 = nI nq) (hnq : nq < 2 ^ 31) (h : pEq (a 12) p nq = false) : sQ a p d = sQ2 a p d nq := by
  unfold sQ
  rw [cn_of hn hnq, if_neg (by rw [h]; decide)]
/-- all but the queue is the same -/
def qk (a a' : gA) : Prop := ∀ r j, ¬ (r = 12 ∨ r = 13 ∨ (r = 0 ∧ j = 21)) → a' r j = a r j
theorem qk_rf (a : gA) : qk a a := fun _ _ _ => rfl
theorem qk_sQ (a : gA) (p d : Int32) : qk a (sQ a p d) := by
  intro r j h
  unfold sQ
  by_cases hp : pEq (a 12) p (cn a 21) = true
  · rw [if_pos hp]
  · rw [if_neg hp]
    unfold sQ2
    rw [gu_off (fun q => h (Or.inr (Or.inl q.1))), gu_off (fun q => h (Or.inr (Or.inr q))), gu_off (fun q => h (Or.inl q.1))]
theorem qk_tr {a b c : gA} (h1 : qk a b) (h2 : qk b c) : qk a c := fun r j h => (h2 r j h).trans (h1 r j h)
theorem qk_sQA (f : Nat → Int32) (d : Int32) (a : gA) : ∀ n, qk a (sQA f d a n)
  | 0 => qk_rf a
  | n + 1 => qk_tr (qk_sQA f d a n) (qk_sQ _ _ _)
theorem qk_row {a a' : gA} (h : qk a a') {r : Nat} (h0 : r ≠ 0) (h1 : r ≠ 12) (h2 : r ≠ 13) : a' r = a r := funext fun j => h r j (fun q => q.elim h1 (fun q => q.elim h2 (fun q => h0 q.1)))
/-- the chase's answer, with n pages left to look at -/
def sC2 (a : gA) : Nat → Nat → Int32
  | 0, _ => -1
  | n + 1, P => if sAlw a P = false then -1 else if a 3 P = -2 then nI P else if a 3 P = -3 then -1 else sC2 a n (a 3 P).toNatClampNeg
/-- and what it fetches -/
def sF2 : Nat → gA → Nat → gA
  | 0, a, _ => a
  | n + 1, a, P => if sAlw a P = false then a else if a 3 P = -2 ∨ a 3 P = -3 then sFe a P else sF2 n (sFe a P) (a 3 P).toNatClampNeg
theorem sFe_row {a : gA} {P r : Nat} (h0 : r ≠ 0) (h1 : r ≠ 14) (h2 : r ≠ 16) : sFe a P r = a r := by
  unfold sFe
  by_cases hp : pEq (a 14) (nI P) (cn a 23) = true
  · rw [if_pos hp]
  · rw [if_neg hp]
    unfold sFe2
    rw [gu_ne h0, gu_ne h0, gu_ne h1, gu_ne h0, gu_ne h2]
theorem sFe_sc {a : gA} {P j : Nat} (h1 : j ≠ 26) (h2 : j ≠ 23) (h3 : j ≠ 28) : sFe a P 0 j = a 0 j := by
  unfold sFe
  by_cases hp : pEq (a 14) (nI P) (cn a 23) = true
  · rw [if_pos hp]
  · rw [if_neg hp]
    unfold sFe2
    rw [gu_off (fun q => h3 q.2), gu_off (fun q => h2 q.2), gu_off (fun q => absurd q.1 (by decide)), gu_off (fun q => h1 q.2), gu_off (fun q => absurd q.1 (by decide))]
/-- the same web -/
def wk (a a' : gA) : Prop := (∀ r, 1 ≤ r → r ≤ 11 → a' r = a r) ∧ ∀ j, j ≤ 17 → a' 0 j = a 0 j
theorem wk_rf (a : gA) : wk a a := ⟨fun _ _ _ => rfl, fun _ _ => rfl⟩
theorem wk_tr {a b c : gA} (h1 : wk a b) (h2 : wk b c) : wk a c := ⟨fun r p q => (h2.1 r p q).trans (h1.1 r p q), fun j p => (h2.2 j p).trans (h1.2 j p)⟩
theorem wk_sFe (a : gA) (P : Nat) : wk a (sFe a P) := ⟨fun r p q => sFe_row (by omega) (by omega) (by omega), fun j p => sFe_sc (by omega) (by omega) (by omega)⟩
theorem wk_qk {a a' : gA} (h : qk a a') : wk a a' := ⟨fun r p q => qk_row h (by omega) (by omega) (by omega), fun j p => h 0 j (by omega)⟩
theorem wk_sc {a : gA} {j : Nat} {z : Int32} (h : 17 < j) : wk a (gu a 0 j z) := ⟨fun r p q => gu_ne (by omega), fun j' p => gu_off (fun q => by omega)⟩
theorem wk_r {a : gA} {r j : Nat} {z : Int32} (h : 11 < r) : wk a (gu a r j z) := ⟨fun r' p q => gu_ne (by omega), fun j' p => gu_off (fun q => by omega)⟩
theorem WFw_wk {np : Nat} {a a' : gA} (h : wk a a') (hw : WFw np a) : WFw np a' := by
  obtain ⟨h1, h2⟩ := h
  unfold WFw at hw ⊢
  rw [h1 1 (by omega) (by omega), h1 2 (by omega) (by omega), h1 3 (by omega) (by omega), h1 4 (by omega) (by omega), h1 5 (by omega) (by omega), h1 6 (by omega) (by omega), h1 7 (by omega) (by omega), h1 8 (by omega) (by omega), h1 9 (by omega) (by omega), h1 10 (by omega) (by omega), h1 11 (by omega) (by omega), h2 0 (by omega), h2 12 (by omega), h2 13 (by omega)]
  exact hw
theorem sAlw_wk {a a' : gA} (h : wk a a') (P : Nat) : sAlw a' P = sAlw a P := by
  unfold sAlw
  rw [h.1 1 (by omega) (by omega), h.1 2 (by omega) (by omega), h.1 8 (by omega) (by omega), h.1 9 (by omega) (by omega), h.1 10 (by omega) (by omega)]
theorem sC2_wk {a a' : gA} (h : wk a a') : ∀ (n P : Nat), sC2 a' n P = sC2 a n P
  | 0, _ => rfl
  | n + 1, P => by
    unfold sC2
    rw [sAlw_wk h, h.1 3 (by omega) (by omega), sC2_wk h n]
theorem wk_sF2 : ∀ (n : Nat) (a : gA) (P : Nat), wk a (sF2 n a P)
  | 0, a, _ => wk_rf a
  | n + 1, a, P => by
    unfold sF2
    split
    · exact wk_rf a
    · split
      · exact wk_sFe a P
      · exact wk_tr (wk_sFe a P) (wk_sF2 n _ _)
theorem sC2_pg {np : Nat} {a : gA} (hw : WFw np a) : ∀ (n P : Nat), P < np → sC2 a n P = -1 ∨ ∃ q, q < np ∧ sC2 a n P = nI q
  | 0, _, _ => Or.inl rfl
  | n + 1, P, hP => by
    unfold sC2
    split
    · exact Or.inl rfl
    · split
      · exact Or.inr ⟨P, hP, rfl⟩
      · split
        · exact Or.inl rfl
        · rename_i h1 h2 h3
          rcases (hw.2.2.1 P hP).2.2.1 with h | h | ⟨q, hq, h⟩
          · exact absurd h h2
          · exact absurd h h3
          · rw [h, nI_clamp (by have := hw.1; omega)]
            exact sC2_pg hw n q hq
/-- the class's own: replies as constants, the row of depths, the row of documents -/
def WX (np : Nat) (a x : gA) : Prop := (∀ p, p < np → (a 3 p = -2 ∧ x 0 p = 0) ∨ (a 3 p = -3 ∧ x 0 p = 2) ∨ ∃ q, q < np ∧ a 3 p = nI q ∧ x 0 p = 1 ∧ x 1 p = nI q) ∧ x 2 0 = a 0 21 ∧ ∃ k, k ≤ 32 ∧ x 2 1 = nI k
theorem nI_neg {q : Nat} (hq : q < 2 ^ 31) {z : Int32} (hz : z < 0) : ¬ nI q = z := fun e => absurd (nI_pos' hq) (by rw [e]; exact Int32.not_le.mpr hz)
theorem WX_code {np P : Nat} {a x : gA} (h : WX np a x) (hnp : np ≤ 32) (hP : P < np) : ∃ c, c < 3 ∧ x 0 P = nI c ∧ (c = 0 ↔ a 3 P = -2) ∧ (c = 2 ↔ a 3 P = -3) ∧ (c = 1 → ∃ q, q < np ∧ a 3 P = nI q ∧ x 1 P = nI q) := by
  rcases h.1 P hP with ⟨h1, h2⟩ | ⟨h1, h2⟩ | ⟨q, hq, h1, h2, h3⟩
  · exact ⟨0, by omega, h2, by simp [h1], by rw [h1]; decide, fun h => by cases h⟩
  · exact ⟨2, by omega, h2, by rw [h1]; decide, by simp [h1], fun h => by cases h⟩
  · have n1 : ¬ nI q = (-2 : Int32) := nI_neg (by omega) (by decide)
    have n2 : ¬ nI q = (-3 : Int32) := nI_neg (by omega) (by decide)
    refine ⟨1, by omega, h2, ?_, ?_, fun _ => ⟨q, hq, h1, h3⟩⟩
    · rw [h1]
      exact ⟨fun h => absurd h (by decide), fun h => absurd h n1⟩
    · rw [h1]
      exact ⟨fun h => absurd h (by decide), fun h => absurd h n2⟩
theorem en_eq {g : gG} {A : Nat → Prop} {s : State} {H : Heap} (hE : va_En R_Reply gRd ["HERE", "MOVED", "GONE"] [] g.2.2 A s H) {c k : Nat} (hc : c < 3) (hk : k < 3) : some (g.2.2 (nI c).toNatClampNeg) = some (g.2.2 k) ↔ c = k := by
  rw [nI_clamp (by omega)]
  exact ⟨fun h => hE.2 c k hc hk (Option.some.inj h), fun h => by rw [h]⟩
/-- slots that the class doesn't hold -/
theorem gW_gh {g : gG} {A : Nat → Prop} {ad : Nat → Nat} {np : Nat} {a a' x : gA} {o : gL} {v : gS} {H : Heap} (h : gW g A ad np (a, x, o) v H) (ha : ∀ r i, gv np (0, r, i) → a' r i = a r i) : gW g A ad np (a', x, o) v H := by
  obtain ⟨σ, τ, h1, h2, h3, h4, h5⟩ := h
  refine ⟨σ, τ, h1, h2, fun q hq => ?_, h4, h5⟩
  rw [h3 q hq]
  obtain ⟨sp, r, i⟩ := q
  match sp with
  | 0 => exact (ha r i hq).symm
  | 1 => rfl
  | 2 => rfl
  | _ + 3 => rfl
theorem gW_33 {g : gG} {A : Nat → Prop} {ad : Nat → Nat} {np : Nat} {a x : gA} {o : gL} {v : gS} {H : Heap} (z : Int32) (h : gW g A ad np (a, x, o) v H) : gW g A ad np (gu a 0 33 z, x, o) v H :=
  gW_gh h (fun r i hq => gu_off (fun e => by obtain ⟨rfl, rfl⟩ := e; exact absurd hq (show ¬ (gff (0, 0, 33)).isSome = true by decide)))
theorem gW_r3 {g : gG} {A : Nat → Prop} {ad : Nat → Nat} {np : Nat} {a x : gA} {o : gL} {v : gS} {H : Heap} (p : Nat) (z : Int32) (h : gW g A ad np (a, x, o) v H) : gW g A ad np (gu a 3 p z, x, o) v H :=
  gW_gh h (fun r i hq => gu_off (fun e => by
    obtain ⟨rfl, rfl⟩ := e
    have h1 : (gff (0, 3, i)).isSome = true := hq
    have h2 : ∀ e ∈ gF, e.2.2.1 = 0 → e.2.2.2.1 ≠ 3 := by decide
    cases hf : gff (0, 3, i) with
    | none => rw [hf] at h1; cases h1
    | some e =>
      have hm := List.mem_of_find?_eq_some hf
      have hp := List.find?_some hf
      simp only [beq_iff_eq] at hp
      exact h2 e hm (by rw [hp]) (by rw [hp])))
