/-! The world grows by a page. -/
def adX (ad : Nat → Nat) (np q0 q1 q2 q3 q4 : Nat) : Nat → Nat := fun k => if k < 94 + 5 * np then ad k else [q0, q1, q2, q3, q4].getD (k - (94 + 5 * np)) 0
theorem adX_lt {ad : Nat → Nat} {np q0 q1 q2 q3 q4 k : Nat} (h : k < 94 + 5 * np) : adX ad np q0 q1 q2 q3 q4 k = ad k := if_pos h
theorem adX_at {ad : Nat → Nat} {np q0 q1 q2 q3 q4 : Nat} (r : Nat) : adX ad np q0 q1 q2 q3 q4 (gp np + r) = [q0, q1, q2, q3, q4].getD r 0 := by
  unfold adX gp
  rw [if_neg (by omega), show 94 + 5 * np + r - (94 + 5 * np) = r by omega]
def sgX (σ : gA) (np : Nat) (w1 w2 : Int32) : gA := fun k j => if k < 94 + 5 * np then σ k j else if k = gp np then (if j = 0 then w1 else if j = 1 then w2 else if j = 5 then -1 else 0) else 0
theorem sgX_lt {σ : gA} {np k : Nat} {w1 w2 : Int32} (h : k < 94 + 5 * np) : sgX σ np w1 w2 k = σ k := funext (fun j => if_pos h)
theorem sgX_p {σ : gA} {np : Nat} {w1 w2 : Int32} (j : Nat) : sgX σ np w1 w2 (gp np) j = if j = 0 then w1 else if j = 1 then w2 else if j = 5 then -1 else 0 := by
  unfold sgX
  rw [if_neg (by unfold gp; omega), if_pos rfl]
theorem sgX_z {σ : gA} {np : Nat} {w1 w2 : Int32} (r : Nat) (j : Nat) : sgX σ np w1 w2 (gp np + (r + 1)) j = 0 := by
  unfold sgX
  rw [if_neg (by unfold gp; omega), if_neg (by omega)]
set_option maxRecDepth 4000 in
theorem gk_nx {np k : Nat} (hk : k < 94 + 5 * np) : (gk k = 2 → k + 2 < 94 + 5 * np) ∧ (gk k = 3 → k + 1 < 94 + 5 * np) ∧ (gk k = 4 → k + 3 < 94 + 5 * np) ∧ (gk k = 11 → k = 2) ∧ (gk k = 12 → k = 3) ∧ (gk k = 13 → k = 37) ∧ gk k < 14 := by
  by_cases h : k < 94
  · have h9 := (show ∀ k : Fin 94, (gk k.val = 2 → k.val + 2 < 94) ∧ (gk k.val = 3 → k.val + 1 < 94) ∧ (gk k.val = 4 → k.val + 3 < 94) ∧ (gk k.val = 11 → k.val = 2) ∧ (gk k.val = 12 → k.val = 3) ∧ (gk k.val = 13 → k.val = 37) ∧ gk k.val < 14 by decide +kernel) ⟨k, h⟩
    exact ⟨fun e => Nat.lt_of_lt_of_le (h9.1 e) (by omega), fun e => Nat.lt_of_lt_of_le (h9.2.1 e) (by omega), fun e => Nat.lt_of_lt_of_le (h9.2.2.1 e) (by omega), h9.2.2.2⟩
  · obtain ⟨p, r, hr, rfl⟩ : ∃ p r, r < 5 ∧ k = gp p + r := ⟨(k - 94) / 5, (k - 94) % 5, by omega, by unfold gp; omega⟩
    have h9 := (gk_p p hr).1
    rw [h9]
    unfold gp at hk ⊢
    match r, hr with
    | 0, _ => exact ⟨fun e => absurd e (by decide), fun e => absurd e (by decide), fun _ => by omega, fun e => absurd e (by decide), fun e => absurd e (by decide), fun e => absurd e (by decide), by decide⟩
    | 1, _ => exact ⟨fun e => absurd e (by decide), fun _ => by omega, fun e => absurd e (by decide), fun e => absurd e (by decide), fun e => absurd e (by decide), fun e => absurd e (by decide), by decide⟩
    | 2, _ => exact ⟨fun e => absurd e (by decide), fun e => absurd e (by decide), fun e => absurd e (by decide), fun e => absurd e (by decide), fun e => absurd e (by decide), fun e => absurd e (by decide), by decide⟩
    | 3, _ => exact ⟨fun e => absurd e (by decide), fun _ => by omega, fun e => absurd e (by decide), fun e => absurd e (by decide), fun e => absurd e (by decide), fun e => absurd e (by decide), by decide⟩
    | 4, _ => exact ⟨fun e => absurd e (by decide), fun e => absurd e (by decide), fun e => absurd e (by decide), fun e => absurd e (by decide), fun e => absurd e (by decide), fun e => absurd e (by decide), by decide⟩
theorem ge_ad {g : gG} {ad ad' : Nat → Nat} {np np' k : Nat} {σ σ' : gA} {τ : gL} (hk : k < 94 + 5 * np) (ha : ∀ j, j < 94 + 5 * np → ad' j = ad j) (hs : σ' k = σ k) (h2 : k ≠ 2) (h3 : k ≠ 3) (h37 : k ≠ 37) : ge g ad' np' σ' τ k = ge g ad np σ τ k := by
  obtain ⟨n2, n3, n4, n11, n12, n13, n14⟩ := gk_nx hk
  have hc : gk k = 0 ∨ gk k = 1 ∨ gk k = 2 ∨ gk k = 3 ∨ gk k = 4 ∨ gk k = 5 ∨ gk k = 6 ∨ gk k = 7 ∨ gk k = 8 ∨ gk k = 9 ∨ gk k = 10 := by
    have m11 : gk k ≠ 11 := fun e => h2 (n11 e)
    have m12 : gk k ≠ 12 := fun e => h3 (n12 e)
    have m13 : gk k ≠ 13 := fun e => h37 (n13 e)
    omega
  rcases hc with h | h | h | h | h | h | h | h | h | h | h
  · rw [ge_0 h, ge_0 h, hs]; simp only [gf0, ha 1 (by omega), ha 24 (by omega), ha 34 (by omega)]
  · rw [ge_1 h, ge_1 h, hs]; simp only [gf1, ha 2 (by omega), ha 3 (by omega), ha 22 (by omega)]
  · rw [ge_2 h, ge_2 h, hs]; have := n2 h; simp only [gf2, ha (k + 1) (by omega), ha (k + 2) (by omega)]
  · rw [ge_3 h, ge_3 h, hs]; have := n3 h; simp only [gf3, ha (k + 1) (by omega)]
  · rw [ge_4 h, ge_4 h, hs]; have := n4 h; simp only [gf4, ha (k + 1) (by omega), ha (k + 3) (by omega)]
  · rw [ge_5 h, ge_5 h, hs]; simp only [gf5, ha 1 (by omega), ha 25 (by omega), ha 27 (by omega), ha 29 (by omega), ha 31 (by omega), ha 33 (by omega)]
  · rw [ge_6 h, ge_6 h]; simp only [gf6, ha 1 (by omega), ha 24 (by omega), ha 35 (by omega), ha 37 (by omega), ha 70 (by omega), ha 71 (by omega), ha 72 (by omega), ha 73 (by omega)]
  · rw [ge_7 h, ge_7 h, hs]; simp only [gf7, ha 75 (by omega), ha 76 (by omega), ha 77 (by omega), ha 78 (by omega), ha 79 (by omega), ha 80 (by omega), ha 81 (by omega), ha 82 (by omega), ha 83 (by omega), ha 84 (by omega), ha 85 (by omega), ha 86 (by omega), ha 87 (by omega), ha 88 (by omega), ha 89 (by omega), ha 90 (by omega), ha 91 (by omega), ha 92 (by omega), ha 93 (by omega)]
  · rw [ge_8 h, ge_8 h, hs]
  · rw [ge_9 h, ge_9 h, hs]
  · rw [ge_10 h, ge_10 h]
theorem at_refs {D : va_G} {cl : List vw_C} {c : ClassId} {n q : Nat} {f f' : Nat → Option Nat} {H : Heap} (e : ∀ i, i < n → f i = f' i) (h : va_at D cl (q, .inl (c, n, .inr (.inr (.inr (.inr f))))) H) : va_at D cl (q, .inl (c, n, .inr (.inr (.inr (.inr f'))))) H := by
  have h1 : H[q]? = some (vp_cell c (n, .inr (.inr (.inr (.inr f))))) := h
  show H[q]? = some (vp_cell c (n, .inr (.inr (.inr (.inr f')))))
  rw [h1, vp_cell_q, vp_cell_q]
  exact congrArg some (arrV_ext (fun i hi => by rw [e i hi]))
theorem gi_lt {np : Nat} {q : Nat × Nat × Nat} (h : gv np q) : (gi q).1 < 94 + 5 * np := by
  unfold gv at h
  unfold gi
  cases hq : gtf q with
  | none =>
    rw [hq] at h
    show (match gff q with | some (k, j, _) => (k, j) | none => (0, 0)).1 < _
    cases hf : gff q with
    | none => show 0 < _; omega
    | some e =>
      have hm : e ∈ gF := List.mem_of_find?_eq_some hf
      have h9 := (show ∀ e ∈ gF, e.1 < 94 by decide) e hm
      show e.1 < _
      omega
  | some e =>
    rw [hq] at h
    have hm : e ∈ gT := List.mem_of_find?_eq_some hq
    obtain ⟨e1, e2, k0, s, d, j0, b, bp⟩ := e
    have h : q.2.2 < b + bp * np := h
    show k0 + s * (q.2.2 / d) < _
    have h9 := (show ∀ e ∈ gT, (e.2.2.2.1 = 0 ∧ e.2.2.1 < 94) ∨ (e.2.2.2.1 = 3 ∧ e.2.2.1 ≤ 6 ∧ (e.2.2.2.2.1 = 4 ∧ e.2.2.2.2.2.2.1 = 24 ∨ e.2.2.2.2.1 = 1 ∧ e.2.2.2.2.2.2.1 = 6) ∧ e.2.2.2.2.2.2.2 = 0) ∨ (e.2.2.2.1 = 1 ∧ e.2.2.1 = 38 ∧ e.2.2.2.2.1 = 5 ∧ e.2.2.2.2.2.2.1 = 160 ∧ e.2.2.2.2.2.2.2 = 0) ∨ (e.2.2.2.1 = 5 ∧ e.2.2.1 ≤ 98 ∧ e.2.2.2.2.2.2.1 = 0 ∧ e.2.2.2.2.2.2.2 = e.2.2.2.2.1 ∧ (e.2.2.2.2.1 = 1 ∨ e.2.2.2.2.1 = 5 ∨ e.2.2.2.2.1 = 8)) by decide) _ hm
    dsimp only at h9
    rcases h9 with ⟨rfl, h1⟩ | ⟨rfl, h1, (⟨rfl, rfl⟩ | ⟨rfl, rfl⟩), rfl⟩ | ⟨rfl, rfl, rfl, rfl, rfl⟩ | ⟨rfl, h1, rfl, rfl, (rfl | rfl | rfl)⟩ <;> omega
theorem gv_s {np : Nat} {q : Nat × Nat × Nat} (h : gv (np + 1) q) : gv np q ∨ q = (0, 1, np) ∨ q = (0, 2, np) ∨ (∃ i, i < 8 ∧ q = (0, 4, 8 * np + i)) ∨ q = (0, 5, np) ∨ (∃ i, i < 5 ∧ q = (0, 6, 5 * np + i)) ∨ q = (0, 7, np) ∨ q = (1, 0, np) ∨ q = (1, 1, np) := by
  unfold gv at h ⊢
  cases hq : gtf q with
  | none => rw [hq] at h; exact Or.inl h
  | some e =>
    rw [hq] at h
    have hm : e ∈ gT := List.mem_of_find?_eq_some hq
    have hp := List.find?_some hq
    obtain ⟨q1, q2, i⟩ := q
    obtain ⟨e1, e2, k0, s, d, j0, b, bp⟩ := e
    have h : i < b + bp * (np + 1) := h
    simp only [Bool.and_eq_true, beq_iff_eq] at hp
    obtain ⟨rfl, rfl⟩ := hp
    show i < b + bp * np ∨ _
    by_cases hi : i < b + bp * np
    · exact Or.inl hi
    · have h9 := (show ∀ e ∈ gT, e.2.2.2.2.2.2.2 = 0 ∨ (e.2.2.2.2.2.2.1 = 0 ∧ ((e.1 = 0 ∧ e.2.1 = 1 ∧ e.2.2.2.2.2.2.2 = 1) ∨ (e.1 = 0 ∧ e.2.1 = 2 ∧ e.2.2.2.2.2.2.2 = 1) ∨ (e.1 = 0 ∧ e.2.1 = 4 ∧ e.2.2.2.2.2.2.2 = 8) ∨ (e.1 = 0 ∧ e.2.1 = 5 ∧ e.2.2.2.2.2.2.2 = 1) ∨ (e.1 = 0 ∧ e.2.1 = 6 ∧ e.2.2.2.2.2.2.2 = 5) ∨ (e.1 = 0 ∧ e.2.1 = 7 ∧ e.2.2.2.2.2.2.2 = 1) ∨ (e.1 = 1 ∧ e.2.1 = 0 ∧ e.2.2.2.2.2.2.2 = 1) ∨ (e.1 = 1 ∧ e.2.1 = 1 ∧ e.2.2.2.2.2.2.2 = 1))) by decide) _ hm
      dsimp only at h9
      right
      rcases h9 with rfl | ⟨rfl, h9⟩
      · omega
      rcases h9 with ⟨rfl, rfl, rfl⟩ | ⟨rfl, rfl, rfl⟩ | ⟨rfl, rfl, rfl⟩ | ⟨rfl, rfl, rfl⟩ | ⟨rfl, rfl, rfl⟩ | ⟨rfl, rfl, rfl⟩ | ⟨rfl, rfl, rfl⟩ | ⟨rfl, rfl, rfl⟩
      · rw [show i = np by omega]; simp
      · rw [show i = np by omega]; simp
      · exact Or.inr (Or.inr (Or.inl ⟨i - 8 * np, by omega, by rw [show 8 * np + (i - 8 * np) = i by omega]⟩))
      · rw [show i = np by omega]; simp
      · exact Or.inr (Or.inr (Or.inr (Or.inr (Or.inl ⟨i - 5 * np, by omega, by rw [show 5 * np + (i - 5 * np) = i by omega]⟩))))
      · rw [show i = np by omega]; simp
      · rw [show i = np by omega]; simp
      · rw [show i = np by omega]; simp
