/-! The start of the law. -/
theorem lw_gK {s : State} {b : Nat} (hts : ∀ w ∈ lw_tbl, w.before #[Value.ref b] s = true) (hgv : (Jvm.Cond.and given_1 narrow_1).before #[Value.ref b] s = true) : ∃ g : gG, gK g (fun q => s.heap.size ≤ q) s := by
  have hq : ∀ w, w ∈ tables_1 → w.before #[Value.ref b] s = true := fun w hw => hts w (List.mem_append_right _ hw)
  have hg9 : ∀ w ∈ gWG, w.before #[Value.ref b] s = true := fun w hw => hts w (List.mem_filter.mp hw).1
  have hf := flat_of_before _ hgv
  obtain ⟨c0, i0, k0⟩ := u_known hg9 uin_PG (hq _ q13)
  obtain ⟨c1, i1, k1⟩ := u_known hg9 uin_Web (hq _ q21)
  obtain ⟨c2, i2, k2⟩ := u_known hg9 uin_Host (hq _ q30)
  obtain ⟨c3, i3, k3⟩ := u_known hg9 uin_Row (hq _ q48)
  obtain ⟨c4, i4, k4⟩ := u_known hg9 uin_Page (hq _ q217)
  obtain ⟨c5, i5, k5⟩ := u_known hg9 uin_Gat (hq _ q84)
  obtain ⟨c6, i6, k6⟩ := u_known hg9 uin_Rank (hq _ q148)
  obtain ⟨c7, i7, k7⟩ := u_known hg9 uin_Mod (hq _ q495)
  obtain ⟨cI, aI, mI, hI1, hI2, hI3⟩ := Cond.arrayClass_spec (hq _ q45)
  obtain ⟨cZ, aZ, mZ, hZ1, hZ2, hZ3⟩ := Cond.arrayClass_spec (hq _ q46)
  obtain ⟨cJ, aJ, mJ, hJ1, hJ2, hJ3⟩ := Cond.arrayClass_spec (hq _ q183)
  obtain ⟨mP, cP, aP, hP0, -, hP2, hP3, hP1⟩ := Cond.arrayOver_spec (hq _ q27)
  obtain ⟨mH, cH, aH, hH0, -, hH2, hH3, hH1⟩ := Cond.arrayOver_spec (hq _ q29)
  obtain ⟨mO, cO, aO, hO0, hO2, hO3, hO1⟩ := Cond.arrayOver_specA (hq _ q156)
  obtain ⟨en, hen⟩ := va_Enof (args := #[Value.ref b]) (s := s) (E := R_Reply) (d := gRd) (nm := ["HERE", "MOVED", "GONE"]) (F := []) (A := fun q => s.heap.size ≤ q)
    (fun i hi => match i, hi with | 0, _ => hq _ q225 | 1, _ => hq _ q282 | 2, _ => hq _ q288 | n + 3, h => absurd h (by simp))
    (hq _ q10)
    (fun i hi => match i, hi with | 0, _ => hf _ (by decide +kernel) | 1, _ => hf _ (by decide +kernel) | 2, _ => hf _ (by decide +kernel) | n + 3, h => absurd h (by simp))
    (fun q hq => absurd hq (by simp))
    (fun i j hi hj hne => match i, hi, j, hj with
      | 0, _, 0, _ => absurd rfl hne | 0, _, 1, _ => Or.inl (hf _ (by decide +kernel)) | 0, _, 2, _ => Or.inl (hf _ (by decide +kernel))
      | 1, _, 0, _ => Or.inr (hf _ (by decide +kernel)) | 1, _, 1, _ => absurd rfl hne | 1, _, 2, _ => Or.inl (hf _ (by decide +kernel))
      | 2, _, 0, _ => Or.inr (hf _ (by decide +kernel)) | 2, _, 1, _ => Or.inr (hf _ (by decide +kernel)) | 2, _, 2, _ => absurd rfl hne
      | n + 3, h, _, _ => absurd h (by simp) | 0, _, n + 3, h => absurd h (by simp) | 1, _, n + 3, h => absurd h (by simp) | 2, _, n + 3, h => absurd h (by simp))
    (fun a ha h => absurd h (Nat.not_le.mpr ha))
  refine ⟨((fun c => match c with | 0 => c0 | 1 => c1 | 2 => c2 | 3 => c3 | 4 => c4 | 5 => c5 | 6 => c6 | _ => c7, fun c => match c with | 0 => i0 | 1 => i1 | 2 => i2 | 3 => i3 | 4 => i4 | 5 => i5 | 6 => i6 | _ => i7), fun k => match k with | 0 => cI | 1 => cZ | 2 => cJ | 3 => cP | 4 => cH | _ => cO, en), ⟨fun c q h => ?_, fun k q h => ?_⟩, hen, fun w hw => ?_, hq _ q27, hq _ q29⟩
  · match c with
    | 0 => cases h; exact k0
    | 1 => cases h; exact k1
    | 2 => cases h; exact k2
    | 3 => cases h; exact k3
    | 4 => cases h; exact k4
    | 5 => cases h; exact k5
    | 6 => cases h; exact k6
    | 7 => cases h; exact k7
    | n + 8 => cases h
  · match k with
    | 0 => cases h; exact ⟨fun n z => ⟨fun k h => (by cases h), aI, hI2, mI, hI3⟩, hI1⟩
    | 1 => cases h; exact ⟨fun n z => ⟨fun k h => (by cases h), aZ, hZ2, mZ, hZ3⟩, hZ1⟩
    | 2 => cases h; exact ⟨fun n z => ⟨fun k h => (by cases h), aJ, hJ2, mJ, hJ3⟩, hJ1⟩
    | 3 => cases h; exact ⟨fun n z => ⟨fun k h => (by cases h), aP, hP2, mP, hP3⟩, aP, mP, hP2, hP3, hP0, hP1⟩
    | 4 => cases h; exact ⟨fun n z => ⟨fun k h => (by cases h), aH, hH2, mH, hH3⟩, aH, mH, hH2, hH3, hH0, hH1⟩
    | 5 => cases h; exact ⟨fun n z => ⟨fun k h => (by cases h), aO, hO2, mO, hO3⟩, hO1⟩
    | n + 6 => cases h
  · obtain ⟨h1, h2⟩ := List.mem_filter.mp hw
    cases w <;> first | exact va_Nw.of rfl (hts _ h1) | exact absurd h2 (by simp [gNok])
theorem lw_fs {P : Nat → Prop} {n : Nat} (h : ∀ k, k < n → P k) (hn : P n) : ∀ k, k < n + 1 → P k := fun k hk => by
  by_cases e : k = n
  · subst e; exact hn
  · exact h k (by omega)
theorem gW_start {g : gG} {A : Nat → Prop} {Z : va_W} {ad : Nat → Nat} {H : Heap} (hW : nW g A Z H) (hk : ∀ k, k < 94 → ∃ e, Z[k]? = some (ad k, e) ∧ (va_at g.1 gcl (ad k, e) H → va_at g.1 gcl (ad k, ge g ad 0 (fun _ _ => 0) (fun _ _ => 0) k) H)) : gW g A ad 0 (fun _ _ => 0, fun _ _ => 0, fun _ _ => 0) (fun _ _ => 0, fun _ _ => 0, fun _ _ => 0) H := by
  have hat : ∀ (k : Nat) (z : Nat × va_E), (gw g ad 0 (fun _ _ => 0) (fun _ _ => 0))[k]? = some z → k < 94 ∧ z = (ad k, ge g ad 0 (fun _ _ => 0) (fun _ _ => 0) k) := by
    intro k z hz
    have hk : k < 94 + 5 * 0 := by
      have := (List.getElem?_eq_some_iff.mp hz).1
      rw [gw_len] at this
      exact this
    rw [gw_at hk] at hz
    exact ⟨hk, (Option.some.inj hz).symm⟩
  refine ⟨fun _ _ => 0, fun _ _ => 0, fun k z hz => ?_, ⟨fun i j y z hi hj e => ?_, fun k z hz => ?_⟩, fun q hq => ?_, fun _ _ => rfl, fun _ _ => rfl⟩
  · obtain ⟨h9, rfl⟩ := hat k z hz
    obtain ⟨e, he, ht⟩ := hk k h9
    exact ht (hW.1 k _ he)
  · obtain ⟨h9, rfl⟩ := hat i y hi
    obtain ⟨h8, rfl⟩ := hat j z hj
    obtain ⟨e1, he1, -⟩ := hk i h9
    obtain ⟨e2, he2, -⟩ := hk j h8
    exact hW.2.1 i j _ _ he1 he2 e
  · obtain ⟨h9, rfl⟩ := hat k z hz
    obtain ⟨e, he, -⟩ := hk k h9
    have h := hW.2.2 k _ he
    exact h
  · unfold gr
    split <;> rfl

