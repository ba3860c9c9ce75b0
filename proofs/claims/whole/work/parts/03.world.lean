/-! The picture of the whole heap: cells by numbers, the abstract state, reading and writing. -/
abbrev gG : Type := va_G × (Nat → ClassId) × (Nat → Nat)
abbrev gA : Type := Nat → Nat → Int32
abbrev gL : Type := Nat → Nat → Int64
abbrev gS : Type := gA × gA × gL
def gty (g : gG) : List (ClassId × FieldType) := [(g.2.1 0, .int), (g.2.1 1, .boolean), (g.2.1 2, .long), (g.2.1 3, .object R_Page), (g.2.1 4, .object R_Host), (g.2.1 5, .array .int)]
def gu (f : gA) (k j : Nat) (v : Int32) : gA := fun k' => if k' = k then upd (f k') j v else f k'
def guL (f : gL) (k j : Nat) (v : Int64) : gL := fun k' => if k' = k then vp_updL (f k') j v else f k'
theorem gu_self (f : gA) (k j : Nat) (v : Int32) : gu f k j v k = upd (f k) j v := if_pos rfl
theorem gu_ne {f : gA} {k k' j : Nat} {v : Int32} (h : k' ≠ k) : gu f k j v k' = f k' := if_neg h
theorem guL_self (f : gL) (k j : Nat) (v : Int64) : guL f k j v k = vp_updL (f k) j v := if_pos rfl
theorem guL_ne {f : gL} {k k' j : Nat} {v : Int64} (h : k' ≠ k) : guL f k j v k' = f k' := if_neg h
theorem gu_hit (f : gA) (k j : Nat) (v : Int32) : gu f k j v k j = v := by rw [gu_self]; exact pk_us
theorem gu_off {f : gA} {k j k' j' : Nat} {v : Int32} (h : ¬ (k' = k ∧ j' = j)) : gu f k j v k' j' = f k' j' := by
  by_cases hk : k' = k
  · subst hk
    rw [gu_self]
    exact pk_un (fun e => h ⟨rfl, e⟩)
  · rw [gu_ne hk]
def gkf : List Nat := [0, 1, 11, 12, 2, 8, 9, 2, 8, 9, 2, 8, 9, 2, 8, 9, 2, 8, 9, 2, 8, 9, 3, 8, 5, 3, 8, 3, 8, 3, 8, 3, 8, 8, 6, 3, 8, 13, 8, 8, 8, 8, 8, 8, 8, 8, 8, 8, 8, 8, 8, 8, 8, 8, 8, 8, 8, 8, 8, 8, 8, 8, 8, 8, 8, 8, 8, 8, 8, 8, 8, 10, 10, 10, 7, 8, 8, 8, 8, 8, 8, 8, 8, 9, 8, 8, 8, 8, 8, 8, 8, 8, 10, 10]
def gnf : List Nat := [0, 0, 0, 0, 0, 4, 4, 0, 4, 4, 0, 4, 4, 0, 4, 4, 0, 4, 4, 0, 4, 4, 0, 6, 0, 0, 32, 0, 32, 0, 32, 0, 32, 6, 0, 0, 32, 0, 5, 5, 5, 5, 5, 5, 5, 5, 5, 5, 5, 5, 5, 5, 5, 5, 5, 5, 5, 5, 5, 5, 5, 5, 5, 5, 5, 5, 5, 5, 5, 5, 32, 32, 32, 32, 0, 32, 32, 32, 256, 32, 160, 32, 24, 24, 6, 6, 32, 32, 32, 32, 6, 160, 32, 32]
def gk (k : Nat) : Nat := if k < 94 then gkf.getD k 0 else [4, 3, 8, 3, 8].getD ((k - 94) % 5) 0
def gn (k : Nat) : Nat := if k < 94 then gnf.getD k 0 else [0, 0, 8, 0, 5].getD ((k - 94) % 5) 0
def gp (p : Nat) : Nat := 94 + 5 * p
theorem gk_p (p : Nat) {r : Nat} (hr : r < 5) : gk (gp p + r) = [4, 3, 8, 3, 8].getD r 0 ∧ gn (gp p + r) = [0, 0, 8, 0, 5].getD r 0 := by
  unfold gk gn gp
  rw [if_neg (by omega), if_neg (by omega), show (94 + 5 * p + r - 94) % 5 = r by omega]
  exact ⟨rfl, rfl⟩
theorem gk_p0 (p : Nat) : gk (gp p) = 4 := (gk_p p (r := 0) (by omega)).1
theorem gk_p1 (p : Nat) : gk (gp p + 1) = 3 := (gk_p p (r := 1) (by omega)).1
theorem gk_p2 (p : Nat) : gk (gp p + 2) = 8 := (gk_p p (r := 2) (by omega)).1
theorem gk_p3 (p : Nat) : gk (gp p + 3) = 3 := (gk_p p (r := 3) (by omega)).1
theorem gk_p4 (p : Nat) : gk (gp p + 4) = 8 := (gk_p p (r := 4) (by omega)).1
theorem gn_p2 (p : Nat) : gn (gp p + 2) = 8 := (gk_p p (r := 2) (by omega)).2
theorem gn_p4 (p : Nat) : gn (gp p + 4) = 5 := (gk_p p (r := 4) (by omega)).2
theorem gk_h0 {h : Nat} (hh : h < 6) : gk (4 + 3 * h) = 2 := (show ∀ h : Fin 6, gk (4 + 3 * h.val) = 2 by decide) ⟨h, hh⟩
theorem gk_h1 {h : Nat} (hh : h < 6) : gk (4 + 3 * h + 1) = 8 ∧ gn (4 + 3 * h + 1) = 4 := (show ∀ h : Fin 6, gk (4 + 3 * h.val + 1) = 8 ∧ gn (4 + 3 * h.val + 1) = 4 by decide) ⟨h, hh⟩
theorem gk_h2 {h : Nat} (hh : h < 6) : gk (4 + 3 * h + 2) = 9 ∧ gn (4 + 3 * h + 2) = 4 := (show ∀ h : Fin 6, gk (4 + 3 * h.val + 2) = 9 ∧ gn (4 + 3 * h.val + 2) = 4 by decide) ⟨h, hh⟩
theorem gk_l {d : Nat} (hd : d < 32) : gk (38 + d) = 8 ∧ gn (38 + d) = 5 := (show ∀ d : Fin 32, gk (38 + d.val) = 8 ∧ gn (38 + d.val) = 5 by decide) ⟨d, hd⟩
abbrev gf0 (ad : Nat → Nat) (r : Nat → Int32) : List Value := [.ref (ad 1), .ref (ad 24), .ref (ad 34), .int (r 3)]
abbrev gf1 (ad : Nat → Nat) (r : Nat → Int32) : List Value := [.ref (ad 2), .ref (ad 3), .ref (ad 22), .int (r 3)]
abbrev gf2 (ad : Nat → Nat) (k : Nat) (r : Nat → Int32) : List Value := [.ref (ad (k + 1)), .ref (ad (k + 2)), .int (r 2)]
abbrev gf3 (ad : Nat → Nat) (k : Nat) (r : Nat → Int32) : List Value := [.ref (ad (k + 1)), .int (r 1)]
abbrev gf4 (g : gG) (ad : Nat → Nat) (k : Nat) (r : Nat → Int32) : List Value := [.int (r 0), .int (r 1), .ref (ad (k + 1)), .ref (ad (k + 3)), .ref (g.2.2 (r 4).toNatClampNeg), .int (r 5)]
abbrev gf5 (ad : Nat → Nat) (r : Nat → Int32) : List Value := [.ref (ad 1), .ref (ad 25), .ref (ad 27), .ref (ad 29), .ref (ad 31), .ref (ad 33), .int (r 6), .int (r 7), .int (r 8), .int (r 9), .int (r 10), .int (r 11), .int (r 12), .int (r 13), .int (r 14), .int (r 15), .int (r 16)]
abbrev gf6 (ad : Nat → Nat) : List Value := [.ref (ad 1), .ref (ad 24), .ref (ad 35), .ref (ad 37), .ref (ad 70), .ref (ad 71), .ref (ad 72), .ref (ad 73)]
abbrev gf7 (ad : Nat → Nat) (r : Nat → Int32) : List Value := [.int (r 0), .ref (ad 75), .ref (ad 76), .ref (ad 77), .ref (ad 78), .ref (ad 79), .ref (ad 80), .ref (ad 81), .ref (ad 82), .ref (ad 83), .ref (ad 84), .ref (ad 85), .int (r 12), .int (r 13), .int (r 14), .int (r 15), .int (r 16), .int (r 17), .ref (ad 86), .ref (ad 87), .int (r 20), .int (r 21), .ref (ad 88), .int (r 23), .ref (ad 89), .int (r 25), .int (r 26), .ref (ad 90), .int (r 28), .int (r 29), .int (r 30), .int (r 31), .int (r 32), .int (r 33), .ref (ad 91), .ref (ad 92), .ref (ad 93)]
def ge (g : gG) (ad : Nat → Nat) (np : Nat) (σ : gA) (τ : gL) (k : Nat) : va_E := match gk k with
  | 0 => .inr (0, gf0 ad (σ k))
  | 1 => .inr (1, gf1 ad (σ k))
  | 2 => .inr (2, gf2 ad k (σ k))
  | 3 => .inr (3, gf3 ad k (σ k))
  | 4 => .inr (4, gf4 g ad k (σ k))
  | 5 => .inr (5, gf5 ad (σ k))
  | 6 => .inr (6, gf6 ad)
  | 7 => .inr (7, gf7 ad (σ k))
  | 8 => .inl (g.2.1 0, gn k, .inl (σ k))
  | 9 => .inl (g.2.1 1, gn k, .inl (σ k))
  | 10 => .inl (g.2.1 2, gn k, .inr (.inl (τ k)))
  | 11 => .inl (g.2.1 3, 32, .inr (.inr (.inr (.inr (fun p => if p < np then some (ad (gp p)) else none)))))
  | 12 => .inl (g.2.1 4, 6, .inr (.inr (.inr (.inr (fun h => some (ad (4 + 3 * h)))))))
  | _ => .inl (g.2.1 5, 32, .inr (.inr (.inr (.inr (fun d => some (ad (38 + d)))))))
theorem ge_0 {g : gG} {ad : Nat → Nat} {np k : Nat} (h : gk k = 0) (σ : gA) (τ : gL) : ge g ad np σ τ k = .inr (0, gf0 ad (σ k)) := by unfold ge; simp only [h]
theorem ge_1 {g : gG} {ad : Nat → Nat} {np k : Nat} (h : gk k = 1) (σ : gA) (τ : gL) : ge g ad np σ τ k = .inr (1, gf1 ad (σ k)) := by unfold ge; simp only [h]
theorem ge_2 {g : gG} {ad : Nat → Nat} {np k : Nat} (h : gk k = 2) (σ : gA) (τ : gL) : ge g ad np σ τ k = .inr (2, gf2 ad k (σ k)) := by unfold ge; simp only [h]
theorem ge_3 {g : gG} {ad : Nat → Nat} {np k : Nat} (h : gk k = 3) (σ : gA) (τ : gL) : ge g ad np σ τ k = .inr (3, gf3 ad k (σ k)) := by unfold ge; simp only [h]
theorem ge_4 {g : gG} {ad : Nat → Nat} {np k : Nat} (h : gk k = 4) (σ : gA) (τ : gL) : ge g ad np σ τ k = .inr (4, gf4 g ad k (σ k)) := by unfold ge; simp only [h]
theorem ge_5 {g : gG} {ad : Nat → Nat} {np k : Nat} (h : gk k = 5) (σ : gA) (τ : gL) : ge g ad np σ τ k = .inr (5, gf5 ad (σ k)) := by unfold ge; simp only [h]
theorem ge_6 {g : gG} {ad : Nat → Nat} {np k : Nat} (h : gk k = 6) (σ : gA) (τ : gL) : ge g ad np σ τ k = .inr (6, gf6 ad) := by unfold ge; simp only [h]
theorem ge_7 {g : gG} {ad : Nat → Nat} {np k : Nat} (h : gk k = 7) (σ : gA) (τ : gL) : ge g ad np σ τ k = .inr (7, gf7 ad (σ k)) := by unfold ge; simp only [h]
theorem ge_8 {g : gG} {ad : Nat → Nat} {np k : Nat} (h : gk k = 8) (σ : gA) (τ : gL) : ge g ad np σ τ k = .inl (g.2.1 0, gn k, .inl (σ k)) := by unfold ge; simp only [h]
theorem ge_9 {g : gG} {ad : Nat → Nat} {np k : Nat} (h : gk k = 9) (σ : gA) (τ : gL) : ge g ad np σ τ k = .inl (g.2.1 1, gn k, .inl (σ k)) := by unfold ge; simp only [h]
theorem ge_10 {g : gG} {ad : Nat → Nat} {np k : Nat} (h : gk k = 10) (σ : gA) (τ : gL) : ge g ad np σ τ k = .inl (g.2.1 2, gn k, .inr (.inl (τ k))) := by unfold ge; simp only [h]
theorem ge_11 {g : gG} {ad : Nat → Nat} {np : Nat} (σ : gA) (τ : gL) : ge g ad np σ τ 2 = .inl (g.2.1 3, 32, .inr (.inr (.inr (.inr (fun p => if p < np then some (ad (gp p)) else none))))) := rfl
theorem ge_12 {g : gG} {ad : Nat → Nat} {np : Nat} (σ : gA) (τ : gL) : ge g ad np σ τ 3 = .inl (g.2.1 4, 6, .inr (.inr (.inr (.inr (fun h => some (ad (4 + 3 * h))))))) := rfl
theorem ge_13 {g : gG} {ad : Nat → Nat} {np : Nat} (σ : gA) (τ : gL) : ge g ad np σ τ 37 = .inl (g.2.1 5, 32, .inr (.inr (.inr (.inr (fun d => some (ad (38 + d))))))) := rfl
theorem ge_congr {g : gG} {ad : Nat → Nat} {np k : Nat} {σ σ' : gA} {τ τ' : gL} (h : σ' k = σ k) (h' : τ' k = τ k) : ge g ad np σ' τ' k = ge g ad np σ τ k := by
  unfold ge
  rw [h, h']
def gw (g : gG) (ad : Nat → Nat) (np : Nat) (σ : gA) (τ : gL) : va_W := (List.range (94 + 5 * np)).map (fun k => (ad k, ge g ad np σ τ k))
theorem gw_at {g : gG} {ad : Nat → Nat} {np k : Nat} {σ : gA} {τ : gL} (hk : k < 94 + 5 * np) : (gw g ad np σ τ)[k]? = some (ad k, ge g ad np σ τ k) := by
  unfold gw
  rw [List.getElem?_map, List.getElem?_range hk]
  rfl
theorem gw_set {g : gG} {ad : Nat → Nat} {np k : Nat} {σ σ' : gA} {τ τ' : gL} {e : va_E} (he : ge g ad np σ' τ' k = e) (ho : ∀ k', k' ≠ k → ge g ad np σ' τ' k' = ge g ad np σ τ k') : (gw g ad np σ τ).set k (ad k, e) = gw g ad np σ' τ' := by
  subst he
  apply List.ext_getElem?
  intro i
  by_cases hi : i < 94 + 5 * np
  · rw [gw_at hi]
    by_cases hik : i = k
    · subst hik
      rw [List.getElem?_set_self (by unfold gw; simpa using hi)]
    · rw [List.getElem?_set_ne (Ne.symm hik), gw_at hi, ho i hik]
  · rw [List.getElem?_eq_none (by unfold gw; simp; omega), List.getElem?_eq_none (by unfold gw; simp; omega)]
def gF : List (Nat × Nat × Nat × Nat × Nat) := [(0, 3, 0, 0, 13), (1, 3, 0, 0, 0), (22, 1, 0, 0, 12), (24, 6, 0, 0, 14), (24, 7, 0, 0, 15), (24, 8, 0, 0, 16), (24, 9, 0, 0, 17), (24, 10, 0, 0, 20), (24, 11, 0, 0, 26), (24, 12, 0, 0, 28), (24, 13, 0, 0, 29), (24, 14, 0, 0, 30), (24, 15, 0, 0, 31), (24, 16, 0, 0, 32), (25, 1, 0, 0, 21), (27, 1, 1, 2, 0), (29, 1, 0, 0, 23), (31, 1, 0, 0, 25), (35, 1, 1, 2, 1), (74, 0, 2, 0, 0), (74, 12, 2, 0, 12), (74, 13, 2, 0, 13), (74, 14, 2, 0, 14), (74, 15, 2, 0, 15), (74, 16, 2, 0, 16), (74, 17, 2, 0, 17), (74, 20, 2, 0, 20), (74, 21, 2, 0, 21), (74, 23, 2, 0, 23), (74, 25, 2, 0, 25), (74, 26, 2, 0, 26), (74, 28, 2, 0, 28), (74, 29, 2, 0, 29), (74, 30, 2, 0, 30), (74, 31, 2, 0, 31), (74, 32, 2, 0, 32), (74, 33, 2, 0, 33)]
def gT : List (Nat × Nat × Nat × Nat × Nat × Nat × Nat × Nat) := [(0, 1, 94, 5, 1, 0, 0, 1), (0, 2, 94, 5, 1, 1, 0, 1), (0, 4, 96, 5, 8, 0, 0, 8), (0, 5, 95, 5, 1, 1, 0, 1), (0, 6, 98, 5, 5, 0, 0, 5), (0, 7, 97, 5, 1, 1, 0, 1), (0, 8, 5, 3, 4, 0, 24, 0), (0, 9, 6, 3, 4, 0, 24, 0), (0, 10, 4, 3, 1, 2, 6, 0), (0, 11, 23, 0, 0, 0, 6, 0), (0, 12, 26, 0, 0, 0, 32, 0), (0, 13, 28, 0, 0, 0, 32, 0), (0, 14, 30, 0, 0, 0, 32, 0), (0, 15, 32, 0, 0, 0, 32, 0), (0, 16, 33, 0, 0, 0, 6, 0), (1, 0, 94, 5, 1, 4, 0, 1), (1, 1, 94, 5, 1, 5, 0, 1), (1, 3, 36, 0, 0, 0, 32, 0), (1, 4, 38, 1, 5, 0, 160, 0), (1, 5, 70, 0, 0, 0, 32, 0), (2, 1, 75, 0, 0, 0, 32, 0), (2, 2, 76, 0, 0, 0, 32, 0), (2, 3, 77, 0, 0, 0, 32, 0), (2, 4, 78, 0, 0, 0, 256, 0), (2, 5, 79, 0, 0, 0, 32, 0), (2, 6, 80, 0, 0, 0, 160, 0), (2, 7, 81, 0, 0, 0, 32, 0), (2, 8, 82, 0, 0, 0, 24, 0), (2, 9, 83, 0, 0, 0, 24, 0), (2, 10, 84, 0, 0, 0, 6, 0), (2, 11, 85, 0, 0, 0, 6, 0), (2, 12, 86, 0, 0, 0, 32, 0), (2, 13, 87, 0, 0, 0, 32, 0), (2, 14, 88, 0, 0, 0, 32, 0), (2, 15, 89, 0, 0, 0, 32, 0), (2, 16, 90, 0, 0, 0, 6, 0), (3, 0, 91, 0, 0, 0, 160, 0)]
def gtf (q : Nat × Nat × Nat) : Option (Nat × Nat × Nat × Nat × Nat × Nat × Nat × Nat) := gT.find? (fun e => e.1 == q.1 && e.2.1 == q.2.1)
def gff (q : Nat × Nat × Nat) : Option (Nat × Nat × Nat × Nat × Nat) := gF.find? (fun e => e.2.2 == q)
/-- the cell and place of an abstract place -/
def gi (q : Nat × Nat × Nat) : Nat × Nat := match gtf q with
  | some (_, _, k0, s, d, j0, _, _) => (k0 + s * (q.2.2 / d), j0 + q.2.2 % d)
  | none => match gff q with
    | some (k, j, _) => (k, j)
    | none => (0, 0)
/-- the abstract places that there are -/
def gv (np : Nat) (q : Nat × Nat × Nat) : Prop := match gtf q with
  | some (_, _, _, _, _, _, b, bp) => q.2.2 < b + bp * np
  | none => (gff q).isSome = true
/-- back: the abstract place of a cell's place -/
def glf (k j : Nat) : Nat × Nat × Nat := match gF.find? (fun e => e.1 == k && e.2.1 == j) with
  | some e => e.2.2
  | none => match gT.find? (fun e => e.2.2.1 == k && e.2.2.2.1 == 0) with
    | some e => (e.1, e.2.1, j)
    | none => if k < 22 then (if (k - 4) % 3 = 0 then (0, 10, (k - 4) / 3) else if (k - 4) % 3 = 1 then (0, 8, 4 * ((k - 4) / 3) + j) else (0, 9, 4 * ((k - 4) / 3) + j)) else (1, 4, 5 * (k - 38) + j)
def glp (p r j : Nat) : Nat × Nat × Nat := if r = 0 then (if j = 0 then (0, 1, p) else if j = 1 then (0, 2, p) else if j = 4 then (1, 0, p) else (1, 1, p)) else if r = 1 then (0, 5, p) else if r = 2 then (0, 4, 8 * p + j) else if r = 3 then (0, 7, p) else (0, 6, 5 * p + j)
def gl (k j : Nat) : Nat × Nat × Nat := if k < 94 then glf k j else glp ((k - 94) / 5) ((k - 94) % 5) j
theorem gl_pg {p r j : Nat} (hr : r < 5) : gl (94 + 5 * p + r) j = glp p r j := by
  unfold gl
  rw [if_neg (by omega), show (94 + 5 * p + r - 94) / 5 = p by omega, show (94 + 5 * p + r - 94) % 5 = r by omega]
theorem gi_0_1 (p : Nat) : gi (0, 1, p) = (gp p, 0) := by
  show (94 + 5 * (p / 1), 0 + p % 1) = _
  unfold gp
  rw [Nat.div_one, Nat.mod_one]
theorem gi_gl_0_1 (p : Nat) : gl (gi (0, 1, p)).1 (gi (0, 1, p)).2 = (0, 1, p) := by
  rw [gi_0_1]
  exact gl_pg (p := p) (r := 0) (j := 0) (by omega)
theorem gi_0_2 (p : Nat) : gi (0, 2, p) = (gp p, 1) := by
  show (94 + 5 * (p / 1), 1 + p % 1) = _
  unfold gp
  rw [Nat.div_one, Nat.mod_one]
theorem gi_gl_0_2 (p : Nat) : gl (gi (0, 2, p)).1 (gi (0, 2, p)).2 = (0, 2, p) := by
  rw [gi_0_2]
  exact gl_pg (p := p) (r := 0) (j := 1) (by omega)
theorem gi_0_4 (p : Nat) {i : Nat} (hi : i < 8) : gi (0, 4, 8 * p + i) = (gp p + 2, i) := by
  show (96 + 5 * ((8 * p + i) / 8), 0 + (8 * p + i) % 8) = _
  unfold gp
  exact Prod.ext (show 96 + 5 * ((8 * p + i) / 8) = 94 + 5 * p + 2 by omega) (show 0 + (8 * p + i) % 8 = i by omega)
theorem gi_gl_0_4 (x : Nat) : gl (gi (0, 4, x)).1 (gi (0, 4, x)).2 = (0, 4, x) := by
  have h := gi_0_4 (x / 8) (i := x % 8) (by omega)
  rw [show 8 * (x / 8) + x % 8 = x by omega] at h
  rw [h]
  refine (gl_pg (p := x / 8) (r := 2) (j := x % 8) (by omega)).trans ?_
  show (0, 4, 8 * (x / 8) + x % 8) = _
  rw [show 8 * (x / 8) + x % 8 = x by omega]
theorem gi_0_5 (p : Nat) : gi (0, 5, p) = (gp p + 1, 1) := by
  show (95 + 5 * (p / 1), 1 + p % 1) = _
  unfold gp
  rw [Nat.div_one, Nat.mod_one]
  exact Prod.ext (show 95 + 5 * p = 94 + 5 * p + 1 by omega) rfl
theorem gi_gl_0_5 (p : Nat) : gl (gi (0, 5, p)).1 (gi (0, 5, p)).2 = (0, 5, p) := by
  rw [gi_0_5]
  exact gl_pg (p := p) (r := 1) (j := 1) (by omega)
theorem gi_0_6 (p : Nat) {i : Nat} (hi : i < 5) : gi (0, 6, 5 * p + i) = (gp p + 4, i) := by
  show (98 + 5 * ((5 * p + i) / 5), 0 + (5 * p + i) % 5) = _
  unfold gp
  exact Prod.ext (show 98 + 5 * ((5 * p + i) / 5) = 94 + 5 * p + 4 by omega) (show 0 + (5 * p + i) % 5 = i by omega)
theorem gi_gl_0_6 (x : Nat) : gl (gi (0, 6, x)).1 (gi (0, 6, x)).2 = (0, 6, x) := by
  have h := gi_0_6 (x / 5) (i := x % 5) (by omega)
  rw [show 5 * (x / 5) + x % 5 = x by omega] at h
  rw [h]
  refine (gl_pg (p := x / 5) (r := 4) (j := x % 5) (by omega)).trans ?_
  show (0, 6, 5 * (x / 5) + x % 5) = _
  rw [show 5 * (x / 5) + x % 5 = x by omega]
theorem gi_0_7 (p : Nat) : gi (0, 7, p) = (gp p + 3, 1) := by
  show (97 + 5 * (p / 1), 1 + p % 1) = _
  unfold gp
  rw [Nat.div_one, Nat.mod_one]
  exact Prod.ext (show 97 + 5 * p = 94 + 5 * p + 3 by omega) rfl
theorem gi_gl_0_7 (p : Nat) : gl (gi (0, 7, p)).1 (gi (0, 7, p)).2 = (0, 7, p) := by
  rw [gi_0_7]
  exact gl_pg (p := p) (r := 3) (j := 1) (by omega)
theorem gi_1_0 (p : Nat) : gi (1, 0, p) = (gp p, 4) := by
  show (94 + 5 * (p / 1), 4 + p % 1) = _
  unfold gp
  rw [Nat.div_one, Nat.mod_one]
theorem gi_gl_1_0 (p : Nat) : gl (gi (1, 0, p)).1 (gi (1, 0, p)).2 = (1, 0, p) := by
  rw [gi_1_0]
  exact gl_pg (p := p) (r := 0) (j := 4) (by omega)
theorem gi_1_1 (p : Nat) : gi (1, 1, p) = (gp p, 5) := by
  show (94 + 5 * (p / 1), 5 + p % 1) = _
  unfold gp
  rw [Nat.div_one, Nat.mod_one]
theorem gi_gl_1_1 (p : Nat) : gl (gi (1, 1, p)).1 (gi (1, 1, p)).2 = (1, 1, p) := by
  rw [gi_1_1]
  exact gl_pg (p := p) (r := 0) (j := 5) (by omega)
theorem gi_gl_0_8 {x : Nat} (hx : x < 24) : gl (gi (0, 8, x)).1 (gi (0, 8, x)).2 = (0, 8, x) := (show ∀ x : Fin 24, gl (gi (0, 8, x.val)).1 (gi (0, 8, x.val)).2 = (0, 8, x.val) by decide +kernel) ⟨x, hx⟩
theorem gi_gl_0_9 {x : Nat} (hx : x < 24) : gl (gi (0, 9, x)).1 (gi (0, 9, x)).2 = (0, 9, x) := (show ∀ x : Fin 24, gl (gi (0, 9, x.val)).1 (gi (0, 9, x.val)).2 = (0, 9, x.val) by decide +kernel) ⟨x, hx⟩
theorem gi_gl_0_10 {x : Nat} (hx : x < 6) : gl (gi (0, 10, x)).1 (gi (0, 10, x)).2 = (0, 10, x) := (show ∀ x : Fin 6, gl (gi (0, 10, x.val)).1 (gi (0, 10, x.val)).2 = (0, 10, x.val) by decide +kernel) ⟨x, hx⟩
theorem gi_gl_1_4 {x : Nat} (hx : x < 160) : gl (gi (1, 4, x)).1 (gi (1, 4, x)).2 = (1, 4, x) := (show ∀ x : Fin 160, gl (gi (1, 4, x.val)).1 (gi (1, 4, x.val)).2 = (1, 4, x.val) by decide +kernel) ⟨x, hx⟩
theorem gi_0_11 (x : Nat) : gi (0, 11, x) = (23, x) := by
  show (23 + 0 * (x / 0), 0 + x % 0) = _
  rw [Nat.zero_mul, Nat.mod_zero, Nat.zero_add]
theorem gi_0_12 (x : Nat) : gi (0, 12, x) = (26, x) := by
  show (26 + 0 * (x / 0), 0 + x % 0) = _
  rw [Nat.zero_mul, Nat.mod_zero, Nat.zero_add]
theorem gi_0_13 (x : Nat) : gi (0, 13, x) = (28, x) := by
  show (28 + 0 * (x / 0), 0 + x % 0) = _
  rw [Nat.zero_mul, Nat.mod_zero, Nat.zero_add]
theorem gi_0_14 (x : Nat) : gi (0, 14, x) = (30, x) := by
  show (30 + 0 * (x / 0), 0 + x % 0) = _
  rw [Nat.zero_mul, Nat.mod_zero, Nat.zero_add]
theorem gi_0_15 (x : Nat) : gi (0, 15, x) = (32, x) := by
  show (32 + 0 * (x / 0), 0 + x % 0) = _
  rw [Nat.zero_mul, Nat.mod_zero, Nat.zero_add]
theorem gi_0_16 (x : Nat) : gi (0, 16, x) = (33, x) := by
  show (33 + 0 * (x / 0), 0 + x % 0) = _
  rw [Nat.zero_mul, Nat.mod_zero, Nat.zero_add]
theorem gi_1_3 (x : Nat) : gi (1, 3, x) = (36, x) := by
  show (36 + 0 * (x / 0), 0 + x % 0) = _
  rw [Nat.zero_mul, Nat.mod_zero, Nat.zero_add]
theorem gi_1_5 (x : Nat) : gi (1, 5, x) = (70, x) := by
  show (70 + 0 * (x / 0), 0 + x % 0) = _
  rw [Nat.zero_mul, Nat.mod_zero, Nat.zero_add]
theorem gi_2_1 (x : Nat) : gi (2, 1, x) = (75, x) := by
  show (75 + 0 * (x / 0), 0 + x % 0) = _
  rw [Nat.zero_mul, Nat.mod_zero, Nat.zero_add]
theorem gi_2_2 (x : Nat) : gi (2, 2, x) = (76, x) := by
  show (76 + 0 * (x / 0), 0 + x % 0) = _
  rw [Nat.zero_mul, Nat.mod_zero, Nat.zero_add]
theorem gi_2_3 (x : Nat) : gi (2, 3, x) = (77, x) := by
  show (77 + 0 * (x / 0), 0 + x % 0) = _
  rw [Nat.zero_mul, Nat.mod_zero, Nat.zero_add]
theorem gi_2_4 (x : Nat) : gi (2, 4, x) = (78, x) := by
  show (78 + 0 * (x / 0), 0 + x % 0) = _
  rw [Nat.zero_mul, Nat.mod_zero, Nat.zero_add]
theorem gi_2_5 (x : Nat) : gi (2, 5, x) = (79, x) := by
  show (79 + 0 * (x / 0), 0 + x % 0) = _
  rw [Nat.zero_mul, Nat.mod_zero, Nat.zero_add]
theorem gi_2_6 (x : Nat) : gi (2, 6, x) = (80, x) := by
  show (80 + 0 * (x / 0), 0 + x % 0) = _
  rw [Nat.zero_mul, Nat.mod_zero, Nat.zero_add]
theorem gi_2_7 (x : Nat) : gi (2, 7, x) = (81, x) := by
  show (81 + 0 * (x / 0), 0 + x % 0) = _
  rw [Nat.zero_mul, Nat.mod_zero, Nat.zero_add]
theorem gi_2_8 (x : Nat) : gi (2, 8, x) = (82, x) := by
  show (82 + 0 * (x / 0), 0 + x % 0) = _
  rw [Nat.zero_mul, Nat.mod_zero, Nat.zero_add]
theorem gi_2_9 (x : Nat) : gi (2, 9, x) = (83, x) := by
  show (83 + 0 * (x / 0), 0 + x % 0) = _
  rw [Nat.zero_mul, Nat.mod_zero, Nat.zero_add]
theorem gi_2_10 (x : Nat) : gi (2, 10, x) = (84, x) := by
  show (84 + 0 * (x / 0), 0 + x % 0) = _
  rw [Nat.zero_mul, Nat.mod_zero, Nat.zero_add]
theorem gi_2_11 (x : Nat) : gi (2, 11, x) = (85, x) := by
  show (85 + 0 * (x / 0), 0 + x % 0) = _
  rw [Nat.zero_mul, Nat.mod_zero, Nat.zero_add]
theorem gi_2_12 (x : Nat) : gi (2, 12, x) = (86, x) := by
  show (86 + 0 * (x / 0), 0 + x % 0) = _
  rw [Nat.zero_mul, Nat.mod_zero, Nat.zero_add]
theorem gi_2_13 (x : Nat) : gi (2, 13, x) = (87, x) := by
  show (87 + 0 * (x / 0), 0 + x % 0) = _
  rw [Nat.zero_mul, Nat.mod_zero, Nat.zero_add]
theorem gi_2_14 (x : Nat) : gi (2, 14, x) = (88, x) := by
  show (88 + 0 * (x / 0), 0 + x % 0) = _
  rw [Nat.zero_mul, Nat.mod_zero, Nat.zero_add]
theorem gi_2_15 (x : Nat) : gi (2, 15, x) = (89, x) := by
  show (89 + 0 * (x / 0), 0 + x % 0) = _
  rw [Nat.zero_mul, Nat.mod_zero, Nat.zero_add]
theorem gi_2_16 (x : Nat) : gi (2, 16, x) = (90, x) := by
  show (90 + 0 * (x / 0), 0 + x % 0) = _
  rw [Nat.zero_mul, Nat.mod_zero, Nat.zero_add]
theorem gi_3_0 (x : Nat) : gi (3, 0, x) = (91, x) := by
  show (91 + 0 * (x / 0), 0 + x % 0) = _
  rw [Nat.zero_mul, Nat.mod_zero, Nat.zero_add]
theorem gi_gl_F : ∀ e ∈ gF, gl (gi e.2.2).1 (gi e.2.2).2 = e.2.2 := by decide +kernel
theorem gi_gl_0_11 (x : Nat) : gl (gi (0, 11, x)).1 (gi (0, 11, x)).2 = (0, 11, x) := by
  rw [gi_0_11]
  rfl
theorem gi_gl_0_12 (x : Nat) : gl (gi (0, 12, x)).1 (gi (0, 12, x)).2 = (0, 12, x) := by
  rw [gi_0_12]
  rfl
theorem gi_gl_0_13 (x : Nat) : gl (gi (0, 13, x)).1 (gi (0, 13, x)).2 = (0, 13, x) := by
  rw [gi_0_13]
  rfl
theorem gi_gl_0_14 (x : Nat) : gl (gi (0, 14, x)).1 (gi (0, 14, x)).2 = (0, 14, x) := by
  rw [gi_0_14]
  rfl
theorem gi_gl_0_15 (x : Nat) : gl (gi (0, 15, x)).1 (gi (0, 15, x)).2 = (0, 15, x) := by
  rw [gi_0_15]
  rfl
theorem gi_gl_0_16 (x : Nat) : gl (gi (0, 16, x)).1 (gi (0, 16, x)).2 = (0, 16, x) := by
  rw [gi_0_16]
  rfl
theorem gi_gl_1_3 (x : Nat) : gl (gi (1, 3, x)).1 (gi (1, 3, x)).2 = (1, 3, x) := by
  rw [gi_1_3]
  rfl
theorem gi_gl_1_5 (x : Nat) : gl (gi (1, 5, x)).1 (gi (1, 5, x)).2 = (1, 5, x) := by
  rw [gi_1_5]
  rfl
theorem gi_gl_2_1 (x : Nat) : gl (gi (2, 1, x)).1 (gi (2, 1, x)).2 = (2, 1, x) := by
  rw [gi_2_1]
  rfl
theorem gi_gl_2_2 (x : Nat) : gl (gi (2, 2, x)).1 (gi (2, 2, x)).2 = (2, 2, x) := by
  rw [gi_2_2]
  rfl
theorem gi_gl_2_3 (x : Nat) : gl (gi (2, 3, x)).1 (gi (2, 3, x)).2 = (2, 3, x) := by
  rw [gi_2_3]
  rfl
theorem gi_gl_2_4 (x : Nat) : gl (gi (2, 4, x)).1 (gi (2, 4, x)).2 = (2, 4, x) := by
  rw [gi_2_4]
  rfl
theorem gi_gl_2_5 (x : Nat) : gl (gi (2, 5, x)).1 (gi (2, 5, x)).2 = (2, 5, x) := by
  rw [gi_2_5]
  rfl
theorem gi_gl_2_6 (x : Nat) : gl (gi (2, 6, x)).1 (gi (2, 6, x)).2 = (2, 6, x) := by
  rw [gi_2_6]
  rfl
theorem gi_gl_2_7 (x : Nat) : gl (gi (2, 7, x)).1 (gi (2, 7, x)).2 = (2, 7, x) := by
  rw [gi_2_7]
  rfl
theorem gi_gl_2_8 (x : Nat) : gl (gi (2, 8, x)).1 (gi (2, 8, x)).2 = (2, 8, x) := by
  rw [gi_2_8]
  rfl
theorem gi_gl_2_9 (x : Nat) : gl (gi (2, 9, x)).1 (gi (2, 9, x)).2 = (2, 9, x) := by
  rw [gi_2_9]
  rfl
theorem gi_gl_2_10 (x : Nat) : gl (gi (2, 10, x)).1 (gi (2, 10, x)).2 = (2, 10, x) := by
  rw [gi_2_10]
  rfl
theorem gi_gl_2_11 (x : Nat) : gl (gi (2, 11, x)).1 (gi (2, 11, x)).2 = (2, 11, x) := by
  rw [gi_2_11]
  rfl
theorem gi_gl_2_12 (x : Nat) : gl (gi (2, 12, x)).1 (gi (2, 12, x)).2 = (2, 12, x) := by
  rw [gi_2_12]
  rfl
theorem gi_gl_2_13 (x : Nat) : gl (gi (2, 13, x)).1 (gi (2, 13, x)).2 = (2, 13, x) := by
  rw [gi_2_13]
  rfl
theorem gi_gl_2_14 (x : Nat) : gl (gi (2, 14, x)).1 (gi (2, 14, x)).2 = (2, 14, x) := by
  rw [gi_2_14]
  rfl
theorem gi_gl_2_15 (x : Nat) : gl (gi (2, 15, x)).1 (gi (2, 15, x)).2 = (2, 15, x) := by
  rw [gi_2_15]
  rfl
theorem gi_gl_2_16 (x : Nat) : gl (gi (2, 16, x)).1 (gi (2, 16, x)).2 = (2, 16, x) := by
  rw [gi_2_16]
  rfl
theorem gi_gl_3_0 (x : Nat) : gl (gi (3, 0, x)).1 (gi (3, 0, x)).2 = (3, 0, x) := by
  rw [gi_3_0]
  rfl
theorem gl_gi {np : Nat} {q : Nat × Nat × Nat} (h : gv np q) : gl (gi q).1 (gi q).2 = q := by
  obtain ⟨sp, row, x⟩ := q
  unfold gv at h
  cases ht : gtf (sp, row, x) with
  | some e =>
    rw [ht] at h
    have hm := List.mem_of_find?_eq_some ht
    have hp := List.find?_some ht
    simp only [Bool.and_eq_true, beq_iff_eq] at hp
    obtain ⟨h1, h2⟩ := hp
    subst h1
    subst h2
    simp only [gT, List.mem_cons, List.not_mem_nil, or_false] at hm
    rcases hm with rfl | rfl | rfl | rfl | rfl | rfl | rfl | rfl | rfl | rfl | rfl | rfl | rfl | rfl | rfl | rfl | rfl | rfl | rfl | rfl | rfl | rfl | rfl | rfl | rfl | rfl | rfl | rfl | rfl | rfl | rfl | rfl | rfl | rfl | rfl | rfl | rfl
    · exact gi_gl_0_1 x
    · exact gi_gl_0_2 x
    · exact gi_gl_0_4 x
    · exact gi_gl_0_5 x
    · exact gi_gl_0_6 x
    · exact gi_gl_0_7 x
    · exact gi_gl_0_8 (by simpa using h)
    · exact gi_gl_0_9 (by simpa using h)
    · exact gi_gl_0_10 (by simpa using h)
    · exact gi_gl_0_11 x
    · exact gi_gl_0_12 x
    · exact gi_gl_0_13 x
    · exact gi_gl_0_14 x
    · exact gi_gl_0_15 x
    · exact gi_gl_0_16 x
    · exact gi_gl_1_0 x
    · exact gi_gl_1_1 x
    · exact gi_gl_1_3 x
    · exact gi_gl_1_4 (by simpa using h)
    · exact gi_gl_1_5 x
    · exact gi_gl_2_1 x
    · exact gi_gl_2_2 x
    · exact gi_gl_2_3 x
    · exact gi_gl_2_4 x
    · exact gi_gl_2_5 x
    · exact gi_gl_2_6 x
    · exact gi_gl_2_7 x
    · exact gi_gl_2_8 x
    · exact gi_gl_2_9 x
    · exact gi_gl_2_10 x
    · exact gi_gl_2_11 x
    · exact gi_gl_2_12 x
    · exact gi_gl_2_13 x
    · exact gi_gl_2_14 x
    · exact gi_gl_2_15 x
    · exact gi_gl_2_16 x
    · exact gi_gl_3_0 x
  | none =>
    rw [ht] at h
    cases hf : gff (sp, row, x) with
    | none => rw [hf] at h; cases h
    | some e =>
      have hm := List.mem_of_find?_eq_some hf
      have hp := List.find?_some hf
      simp only [beq_iff_eq] at hp
      have h3 := gi_gl_F e hm
      rw [hp] at h3
      exact h3
theorem gi_inj {np : Nat} {q q' : Nat × Nat × Nat} (h : gv np q) (h' : gv np q') (he : gi q = gi q') : q = q' := by
  rw [← gl_gi h, ← gl_gi h', he]
theorem gv_sp {np : Nat} {q : Nat × Nat × Nat} (h : gv np q) : q.1 < 4 := by
  obtain ⟨sp, row, x⟩ := q
  unfold gv at h
  cases ht : gtf (sp, row, x) with
  | some e =>
    have hm := List.mem_of_find?_eq_some ht
    have hp := List.find?_some ht
    simp only [Bool.and_eq_true, beq_iff_eq] at hp
    have h4 : ∀ e ∈ gT, e.1 < 4 := by decide
    show sp < 4
    rw [← hp.1]
    exact h4 e hm
  | none =>
    rw [ht] at h
    cases hf : gff (sp, row, x) with
    | none => rw [hf] at h; cases h
    | some e =>
      have hm := List.mem_of_find?_eq_some hf
      have hp := List.find?_some hf
      simp only [beq_iff_eq] at hp
      have h4 : ∀ e ∈ gF, e.2.2.1 < 4 := by decide
      have h5 := h4 e hm
      rw [hp] at h5
      exact h5
def gr (u v : gS) (q : Nat × Nat × Nat) : Int32 := match q.1 with
  | 0 => u.1 q.2.1 q.2.2
  | 1 => u.2.1 q.2.1 q.2.2
  | 2 => v.1 q.2.1 q.2.2
  | _ => v.2.1 q.2.1 q.2.2
def gx (u v : gS) (q : Nat × Nat × Nat) (x : Int32) : gS × gS := match q.1 with
  | 0 => ((gu u.1 q.2.1 q.2.2 x, u.2.1, u.2.2), v)
  | 1 => ((u.1, gu u.2.1 q.2.1 q.2.2 x, u.2.2), v)
  | 2 => (u, (gu v.1 q.2.1 q.2.2 x, v.2.1, v.2.2))
  | _ => (u, (v.1, gu v.2.1 q.2.1 q.2.2 x, v.2.2))
theorem gr_gx_self (u v : gS) (q : Nat × Nat × Nat) (x : Int32) : gr (gx u v q x).1 (gx u v q x).2 q = x := by
  obtain ⟨sp, row, i⟩ := q
  match sp with
  | 0 => exact gu_hit _ _ _ _
  | 1 => exact gu_hit _ _ _ _
  | 2 => exact gu_hit _ _ _ _
  | _ + 3 => exact gu_hit _ _ _ _
theorem gr_gx_ne {u v : gS} {q q' : Nat × Nat × Nat} {x : Int32} (h : q' ≠ q) (hs : q.1 < 4) (hs' : q'.1 < 4) : gr (gx u v q x).1 (gx u v q x).2 q' = gr u v q' := by
  obtain ⟨sp, row, i⟩ := q
  obtain ⟨sp', row', i'⟩ := q'
  have key : sp' = sp → ¬ (row' = row ∧ i' = i) := fun e1 e2 => h (by rw [e1, e2.1, e2.2])
  match sp, sp', hs, hs' with
  | 0, 0, _, _ => exact gu_off (key rfl)
  | 1, 1, _, _ => exact gu_off (key rfl)
  | 2, 2, _, _ => exact gu_off (key rfl)
  | 3, 3, _, _ => exact gu_off (key rfl)
  | 0, 1, _, _ => rfl
  | 0, 2, _, _ => rfl
  | 0, 3, _, _ => rfl
  | 1, 0, _, _ => rfl
  | 1, 2, _, _ => rfl
  | 1, 3, _, _ => rfl
  | 2, 0, _, _ => rfl
  | 2, 1, _, _ => rfl
  | 2, 3, _, _ => rfl
  | 3, 0, _, _ => rfl
  | 3, 1, _, _ => rfl
  | 3, 2, _, _ => rfl
theorem gx_l (u v : gS) (q : Nat × Nat × Nat) (x : Int32) : (gx u v q x).1.2.2 = u.2.2 ∧ (gx u v q x).2.2.2 = v.2.2 := by
  obtain ⟨sp, row, i⟩ := q
  match sp with
  | 0 => exact ⟨rfl, rfl⟩
  | 1 => exact ⟨rfl, rfl⟩
  | 2 => exact ⟨rfl, rfl⟩
  | _ + 3 => exact ⟨rfl, rfl⟩
/-- the world: the whole picture, the class's state u, the reference's state v -/
def gW (g : gG) (A : Nat → Prop) (ad : Nat → Nat) (np : Nat) (u v : gS) (H : Heap) : Prop := ∃ (σ : gA) (τ : gL), va_P g.1 gcl (gw g ad np σ τ) H ∧ va_D A (gw g ad np σ τ) ∧ (∀ q, gv np q → σ (gi q).1 (gi q).2 = gr u v q) ∧ (∀ k, k < 3 → τ (71 + k) = u.2.2 k) ∧ (∀ k, k < 2 → τ (92 + k) = v.2.2 k)
theorem gW_wr {g : gG} {A : Nat → Prop} {ad : Nat → Nat} {np k j : Nat} {u v : gS} {σ : gA} {τ : gL} {x : Int32} {q : Nat × Nat × Nat} {e : va_E} {H1 : Heap} (hq : gv np q) (hg : gi q = (k, j)) (hr : ∀ q, gv np q → σ (gi q).1 (gi q).2 = gr u v q) (hl1 : ∀ k, k < 3 → τ (71 + k) = u.2.2 k) (hl2 : ∀ k, k < 2 → τ (92 + k) = v.2.2 k)
    (he : ge g ad np (gu σ k j x) τ k = e) (hP : va_P g.1 gcl ((gw g ad np σ τ).set k (ad k, e)) H1) (hD : va_D A ((gw g ad np σ τ).set k (ad k, e))) : gW g A ad np (gx u v q x).1 (gx u v q x).2 H1 := by
  have hs := gw_set (g := g) (ad := ad) (np := np) (k := k) (σ := σ) (σ' := gu σ k j x) (τ := τ) (τ' := τ) he (fun k' hk' => ge_congr (gu_ne hk') rfl)
  rw [hs] at hP hD
  refine ⟨_, _, hP, hD, fun q' hq' => ?_, fun k hk => ?_, fun k hk => ?_⟩
  · by_cases e : q' = q
    · subst e
      rw [hg, gr_gx_self]
      exact gu_hit _ _ _ _
    · rw [gr_gx_ne e (gv_sp hq) (gv_sp hq'), ← hr q' hq']
      exact gu_off (fun h => e (gi_inj hq' hq (by rw [hg]; exact Prod.ext h.1 h.2)))
  · rw [(gx_l u v q x).1]; exact hl1 k hk
  · rw [(gx_l u v q x).2]; exact hl2 k hk
theorem gW_wrL {g : gG} {A : Nat → Prop} {ad : Nat → Nat} {np k j : Nat} {u v : gS} {σ : gA} {τ : gL} {x : Int64} {e : va_E} {H1 : Heap} (hk : k < 3) (hr : ∀ q, gv np q → σ (gi q).1 (gi q).2 = gr u v q) (hl1 : ∀ k, k < 3 → τ (71 + k) = u.2.2 k) (hl2 : ∀ k, k < 2 → τ (92 + k) = v.2.2 k)
    (he : ge g ad np σ (guL τ (71 + k) j x) (71 + k) = e) (hP : va_P g.1 gcl ((gw g ad np σ τ).set (71 + k) (ad (71 + k), e)) H1) (hD : va_D A ((gw g ad np σ τ).set (71 + k) (ad (71 + k), e))) : gW g A ad np (u.1, u.2.1, guL u.2.2 k j x) v H1 := by
  have hs := gw_set (g := g) (ad := ad) (np := np) (k := 71 + k) (σ := σ) (σ' := σ) (τ := τ) (τ' := guL τ (71 + k) j x) he (fun k' hk' => ge_congr rfl (guL_ne hk'))
  rw [hs] at hP hD
  refine ⟨_, _, hP, hD, fun q' hq' => ?_, fun k' hk' => ?_, fun k' hk' => ?_⟩
  · rw [hr q' hq']
    obtain ⟨sp, row, i⟩ := q'
    match sp with
    | 0 => rfl
    | 1 => rfl
    | 2 => rfl
    | _ + 3 => rfl
  · by_cases e : k' = k
    · subst e
      rw [guL_self, hl1 k' hk']
      exact (guL_self _ _ _ _).symm
    · rw [guL_ne (show 71 + k' ≠ 71 + k by omega), hl1 k' hk']
      exact (guL_ne e).symm
  · rw [guL_ne (show 92 + k' ≠ 71 + k by omega)]
    exact hl2 k' hk'
theorem gW_wrM {g : gG} {A : Nat → Prop} {ad : Nat → Nat} {np k j : Nat} {u v : gS} {σ : gA} {τ : gL} {x : Int64} {e : va_E} {H1 : Heap} (hk : k < 2) (hr : ∀ q, gv np q → σ (gi q).1 (gi q).2 = gr u v q) (hl1 : ∀ k, k < 3 → τ (71 + k) = u.2.2 k) (hl2 : ∀ k, k < 2 → τ (92 + k) = v.2.2 k)
    (he : ge g ad np σ (guL τ (92 + k) j x) (92 + k) = e) (hP : va_P g.1 gcl ((gw g ad np σ τ).set (92 + k) (ad (92 + k), e)) H1) (hD : va_D A ((gw g ad np σ τ).set (92 + k) (ad (92 + k), e))) : gW g A ad np u (v.1, v.2.1, guL v.2.2 k j x) H1 := by
  have hs := gw_set (g := g) (ad := ad) (np := np) (k := 92 + k) (σ := σ) (σ' := σ) (τ := τ) (τ' := guL τ (92 + k) j x) he (fun k' hk' => ge_congr rfl (guL_ne hk'))
  rw [hs] at hP hD
  refine ⟨_, _, hP, hD, fun q' hq' => ?_, fun k' hk' => ?_, fun k' hk' => ?_⟩
  · rw [hr q' hq']
    obtain ⟨sp, row, i⟩ := q'
    match sp with
    | 0 => rfl
    | 1 => rfl
    | 2 => rfl
    | _ + 3 => rfl
  · rw [guL_ne (show 71 + k' ≠ 92 + k by omega)]
    exact hl1 k' hk'
  · by_cases e : k' = k
    · subst e
      rw [guL_self, hl2 k' hk']
      exact (guL_self _ _ _ _).symm
    · rw [guL_ne (show 92 + k' ≠ 92 + k by omega), hl2 k' hk']
      exact (guL_ne e).symm
theorem gv_0_0_13 (np : Nat) : gv np (0, 0, 13) := show (gff (0, 0, 13)).isSome = true from rfl
theorem gv_0_0_0 (np : Nat) : gv np (0, 0, 0) := show (gff (0, 0, 0)).isSome = true from rfl
theorem gv_0_0_12 (np : Nat) : gv np (0, 0, 12) := show (gff (0, 0, 12)).isSome = true from rfl
theorem gv_0_0_14 (np : Nat) : gv np (0, 0, 14) := show (gff (0, 0, 14)).isSome = true from rfl
theorem gv_0_0_15 (np : Nat) : gv np (0, 0, 15) := show (gff (0, 0, 15)).isSome = true from rfl
theorem gv_0_0_16 (np : Nat) : gv np (0, 0, 16) := show (gff (0, 0, 16)).isSome = true from rfl
theorem gv_0_0_17 (np : Nat) : gv np (0, 0, 17) := show (gff (0, 0, 17)).isSome = true from rfl
theorem gv_0_0_20 (np : Nat) : gv np (0, 0, 20) := show (gff (0, 0, 20)).isSome = true from rfl
theorem gv_0_0_26 (np : Nat) : gv np (0, 0, 26) := show (gff (0, 0, 26)).isSome = true from rfl
theorem gv_0_0_28 (np : Nat) : gv np (0, 0, 28) := show (gff (0, 0, 28)).isSome = true from rfl
theorem gv_0_0_29 (np : Nat) : gv np (0, 0, 29) := show (gff (0, 0, 29)).isSome = true from rfl
theorem gv_0_0_30 (np : Nat) : gv np (0, 0, 30) := show (gff (0, 0, 30)).isSome = true from rfl
theorem gv_0_0_31 (np : Nat) : gv np (0, 0, 31) := show (gff (0, 0, 31)).isSome = true from rfl
theorem gv_0_0_32 (np : Nat) : gv np (0, 0, 32) := show (gff (0, 0, 32)).isSome = true from rfl
theorem gv_0_0_21 (np : Nat) : gv np (0, 0, 21) := show (gff (0, 0, 21)).isSome = true from rfl
theorem gv_1_2_0 (np : Nat) : gv np (1, 2, 0) := show (gff (1, 2, 0)).isSome = true from rfl
theorem gv_0_0_23 (np : Nat) : gv np (0, 0, 23) := show (gff (0, 0, 23)).isSome = true from rfl
theorem gv_0_0_25 (np : Nat) : gv np (0, 0, 25) := show (gff (0, 0, 25)).isSome = true from rfl
theorem gv_1_2_1 (np : Nat) : gv np (1, 2, 1) := show (gff (1, 2, 1)).isSome = true from rfl
theorem gv_2_0_0 (np : Nat) : gv np (2, 0, 0) := show (gff (2, 0, 0)).isSome = true from rfl
theorem gv_2_0_12 (np : Nat) : gv np (2, 0, 12) := show (gff (2, 0, 12)).isSome = true from rfl
theorem gv_2_0_13 (np : Nat) : gv np (2, 0, 13) := show (gff (2, 0, 13)).isSome = true from rfl
theorem gv_2_0_14 (np : Nat) : gv np (2, 0, 14) := show (gff (2, 0, 14)).isSome = true from rfl
theorem gv_2_0_15 (np : Nat) : gv np (2, 0, 15) := show (gff (2, 0, 15)).isSome = true from rfl
theorem gv_2_0_16 (np : Nat) : gv np (2, 0, 16) := show (gff (2, 0, 16)).isSome = true from rfl
theorem gv_2_0_17 (np : Nat) : gv np (2, 0, 17) := show (gff (2, 0, 17)).isSome = true from rfl
theorem gv_2_0_20 (np : Nat) : gv np (2, 0, 20) := show (gff (2, 0, 20)).isSome = true from rfl
theorem gv_2_0_21 (np : Nat) : gv np (2, 0, 21) := show (gff (2, 0, 21)).isSome = true from rfl
theorem gv_2_0_23 (np : Nat) : gv np (2, 0, 23) := show (gff (2, 0, 23)).isSome = true from rfl
theorem gv_2_0_25 (np : Nat) : gv np (2, 0, 25) := show (gff (2, 0, 25)).isSome = true from rfl
theorem gv_2_0_26 (np : Nat) : gv np (2, 0, 26) := show (gff (2, 0, 26)).isSome = true from rfl
theorem gv_2_0_28 (np : Nat) : gv np (2, 0, 28) := show (gff (2, 0, 28)).isSome = true from rfl
theorem gv_2_0_29 (np : Nat) : gv np (2, 0, 29) := show (gff (2, 0, 29)).isSome = true from rfl
theorem gv_2_0_30 (np : Nat) : gv np (2, 0, 30) := show (gff (2, 0, 30)).isSome = true from rfl
theorem gv_2_0_31 (np : Nat) : gv np (2, 0, 31) := show (gff (2, 0, 31)).isSome = true from rfl
theorem gv_2_0_32 (np : Nat) : gv np (2, 0, 32) := show (gff (2, 0, 32)).isSome = true from rfl
theorem gv_2_0_33 (np : Nat) : gv np (2, 0, 33) := show (gff (2, 0, 33)).isSome = true from rfl
theorem gv_0_1 {np p : Nat} (hp : p < np) : gv np (0, 1, p) := show p < 0 + 1 * np by omega
theorem gv_0_2 {np p : Nat} (hp : p < np) : gv np (0, 2, p) := show p < 0 + 1 * np by omega
theorem gv_0_4 {np p i : Nat} (hp : p < np) (hi : i < 8) : gv np (0, 4, 8 * p + i) := show 8 * p + i < 0 + 8 * np by omega
theorem gv_0_5 {np p : Nat} (hp : p < np) : gv np (0, 5, p) := show p < 0 + 1 * np by omega
theorem gv_0_6 {np p i : Nat} (hp : p < np) (hi : i < 5) : gv np (0, 6, 5 * p + i) := show 5 * p + i < 0 + 5 * np by omega
theorem gv_0_7 {np p : Nat} (hp : p < np) : gv np (0, 7, p) := show p < 0 + 1 * np by omega
theorem gv_0_8 {np h i : Nat} (hh : h < 6) (hi : i < 4) : gv np (0, 8, 4 * h + i) := show 4 * h + i < 24 + 0 * np by omega
theorem gi_0_8 (h : Nat) {i : Nat} (hi : i < 4) : gi (0, 8, 4 * h + i) = (4 + 3 * h + 1, i) := by
  show (5 + 3 * ((4 * h + i) / 4), 0 + (4 * h + i) % 4) = _
  exact Prod.ext (show 5 + 3 * ((4 * h + i) / 4) = 4 + 3 * h + 1 by omega) (show 0 + (4 * h + i) % 4 = i by omega)
theorem gv_0_9 {np h i : Nat} (hh : h < 6) (hi : i < 4) : gv np (0, 9, 4 * h + i) := show 4 * h + i < 24 + 0 * np by omega
theorem gi_0_9 (h : Nat) {i : Nat} (hi : i < 4) : gi (0, 9, 4 * h + i) = (4 + 3 * h + 2, i) := by
  show (6 + 3 * ((4 * h + i) / 4), 0 + (4 * h + i) % 4) = _
  exact Prod.ext (show 6 + 3 * ((4 * h + i) / 4) = 4 + 3 * h + 2 by omega) (show 0 + (4 * h + i) % 4 = i by omega)
theorem gv_0_10 {np h : Nat} (hh : h < 6) : gv np (0, 10, h) := show h < 6 + 0 * np by omega
theorem gi_0_10 (h : Nat) : gi (0, 10, h) = (4 + 3 * h, 2) := by
  show (4 + 3 * (h / 1), 2 + h % 1) = _
  rw [Nat.div_one, Nat.mod_one]
theorem gv_0_11 {np x : Nat} (hx : x < 6) : gv np (0, 11, x) := show x < 6 + 0 * np by omega
theorem gv_0_12 {np x : Nat} (hx : x < 32) : gv np (0, 12, x) := show x < 32 + 0 * np by omega
theorem gv_0_13 {np x : Nat} (hx : x < 32) : gv np (0, 13, x) := show x < 32 + 0 * np by omega
theorem gv_0_14 {np x : Nat} (hx : x < 32) : gv np (0, 14, x) := show x < 32 + 0 * np by omega
theorem gv_0_15 {np x : Nat} (hx : x < 32) : gv np (0, 15, x) := show x < 32 + 0 * np by omega
theorem gv_0_16 {np x : Nat} (hx : x < 6) : gv np (0, 16, x) := show x < 6 + 0 * np by omega
theorem gv_1_0 {np p : Nat} (hp : p < np) : gv np (1, 0, p) := show p < 0 + 1 * np by omega
theorem gv_1_1 {np p : Nat} (hp : p < np) : gv np (1, 1, p) := show p < 0 + 1 * np by omega
theorem gv_1_3 {np x : Nat} (hx : x < 32) : gv np (1, 3, x) := show x < 32 + 0 * np by omega
theorem gv_1_4 {np d i : Nat} (hd : d < 32) (hi : i < 5) : gv np (1, 4, 5 * d + i) := show 5 * d + i < 160 + 0 * np by omega
theorem gi_1_4 (d : Nat) {i : Nat} (hi : i < 5) : gi (1, 4, 5 * d + i) = (38 + d, i) := by
  show (38 + 1 * ((5 * d + i) / 5), 0 + (5 * d + i) % 5) = _
  exact Prod.ext (show 38 + 1 * ((5 * d + i) / 5) = 38 + d by omega) (show 0 + (5 * d + i) % 5 = i by omega)
theorem gv_1_5 {np x : Nat} (hx : x < 32) : gv np (1, 5, x) := show x < 32 + 0 * np by omega
theorem gv_2_1 {np x : Nat} (hx : x < 32) : gv np (2, 1, x) := show x < 32 + 0 * np by omega
theorem gv_2_2 {np x : Nat} (hx : x < 32) : gv np (2, 2, x) := show x < 32 + 0 * np by omega
theorem gv_2_3 {np x : Nat} (hx : x < 32) : gv np (2, 3, x) := show x < 32 + 0 * np by omega
theorem gv_2_4 {np x : Nat} (hx : x < 256) : gv np (2, 4, x) := show x < 256 + 0 * np by omega
theorem gv_2_5 {np x : Nat} (hx : x < 32) : gv np (2, 5, x) := show x < 32 + 0 * np by omega
theorem gv_2_6 {np x : Nat} (hx : x < 160) : gv np (2, 6, x) := show x < 160 + 0 * np by omega
theorem gv_2_7 {np x : Nat} (hx : x < 32) : gv np (2, 7, x) := show x < 32 + 0 * np by omega
theorem gv_2_8 {np x : Nat} (hx : x < 24) : gv np (2, 8, x) := show x < 24 + 0 * np by omega
theorem gv_2_9 {np x : Nat} (hx : x < 24) : gv np (2, 9, x) := show x < 24 + 0 * np by omega
theorem gv_2_10 {np x : Nat} (hx : x < 6) : gv np (2, 10, x) := show x < 6 + 0 * np by omega
theorem gv_2_11 {np x : Nat} (hx : x < 6) : gv np (2, 11, x) := show x < 6 + 0 * np by omega
theorem gv_2_12 {np x : Nat} (hx : x < 32) : gv np (2, 12, x) := show x < 32 + 0 * np by omega
theorem gv_2_13 {np x : Nat} (hx : x < 32) : gv np (2, 13, x) := show x < 32 + 0 * np by omega
theorem gv_2_14 {np x : Nat} (hx : x < 32) : gv np (2, 14, x) := show x < 32 + 0 * np by omega
theorem gv_2_15 {np x : Nat} (hx : x < 32) : gv np (2, 15, x) := show x < 32 + 0 * np by omega
theorem gv_2_16 {np x : Nat} (hx : x < 6) : gv np (2, 16, x) := show x < 6 + 0 * np by omega
theorem gv_3_0 {np x : Nat} (hx : x < 160) : gv np (3, 0, x) := show x < 160 + 0 * np by omega
