/-! Handling an entry, and that the gathering keeps to its bounds. -/
theorem sF2_row : ∀ (n : Nat) (a : gA) (P : Nat) {r : Nat}, r ≠ 0 → r ≠ 14 → r ≠ 16 → sF2 n a P r = a r
  | 0, _, _, _, _, _, _ => rfl
  | n + 1, a, P, r, h0, h1, h2 => by
    unfold sF2
    split
    · rfl
    · split
      · exact sFe_row h0 h1 h2
      · rw [sF2_row n _ _ h0 h1 h2, sFe_row h0 h1 h2]
theorem sF2_sc : ∀ (n : Nat) (a : gA) (P : Nat) {j : Nat}, j ≠ 26 → j ≠ 23 → j ≠ 28 → sF2 n a P 0 j = a 0 j
  | 0, _, _, _, _, _, _ => rfl
  | n + 1, a, P, j, h0, h1, h2 => by
    unfold sF2
    split
    · rfl
    · split
      · exact sFe_sc h0 h1 h2
      · rw [sF2_sc n _ _ h0 h1 h2, sFe_sc h0 h1 h2]
theorem sFe_dst2 {a : gA} {P nf np : Nat} (hnf : a 0 23 = nI nf) (hd : dst (a 14) nf np) (hP : P < np) (hnp : np ≤ 32) : ∃ nf2, nf ≤ nf2 ∧ sFe a P 0 23 = nI nf2 ∧ dst (sFe a P 14) nf2 np := by
  have h32 := dst_le hd hnp
  cases hp : pEq (a 14) (nI P) nf with
  | true => rw [sFe_y hnf (by omega) hp]; exact ⟨nf, Nat.le_refl _, hnf, hd⟩
  | false =>
    unfold sFe
    rw [cn_of hnf (by omega), if_neg (by rw [hp]; decide)]
    exact ⟨nf + 1, by omega, rfl, dst_push hd hP rfl hp⟩
theorem sF2_dst : ∀ (n : Nat) {a : gA} {P nf np : Nat}, WFw np a → a 0 23 = nI nf → dst (a 14) nf np → P < np → ∃ nf2, nf ≤ nf2 ∧ sF2 n a P 0 23 = nI nf2 ∧ dst (sF2 n a P 14) nf2 np
  | 0, a, P, nf, np, _, hnf, hd, _ => ⟨nf, Nat.le_refl _, hnf, hd⟩
  | n + 1, a, P, nf, np, hw, hnf, hd, hP => by
    obtain ⟨nf2, h1, h2, h3⟩ := sFe_dst2 hnf hd hP hw.1
    unfold sF2
    split
    · exact ⟨nf, Nat.le_refl _, hnf, hd⟩
    · split
      · exact ⟨nf2, h1, h2, h3⟩
      · rename_i c1 c2
        rcases (hw.2.2.1 P hP).2.2.1 with h | h | ⟨q, hq, h⟩
        · exact absurd (Or.inl h) c2
        · exact absurd (Or.inr h) c2
        · rw [h, nI_clamp (by have := hw.1; omega)]
          obtain ⟨nf3, k1, k2, k3⟩ := sF2_dst n (WFw_wk (wk_sFe a P) hw) h2 h3 hq
          exact ⟨nf3, by omega, k2, k3⟩
theorem sQ_dst {a : gA} {p d : Int32} {nq np q : Nat} (hn : a 0 21 = nI nq) (hd : dst (a 12) nq np) (hq : q < np) (hp : p = nI q) (hnp : np ≤ 32) : ∃ nq2, nq ≤ nq2 ∧ sQ a p d 0 21 = nI nq2 ∧ dst (sQ a p d 12) nq2 np := by
  have h32 := dst_le hd hnp
  cases he : pEq (a 12) p nq with
  | true => rw [sQ_y hn (by omega) he]; exact ⟨nq, Nat.le_refl _, hn, hd⟩
  | false =>
    rw [sQ_n hn (by omega) he]
    exact ⟨nq + 1, by omega, rfl, dst_push hd hq hp he⟩
theorem sQA_dst {f : Nat → Int32} {d : Int32} {a : gA} {nq np : Nat} (hn : a 0 21 = nI nq) (hd : dst (a 12) nq np) (hnp : np ≤ 32) : ∀ (n : Nat), (∀ i, i < n → ∃ q, q < np ∧ f i = nI q) → ∃ nq2, nq ≤ nq2 ∧ sQA f d a n 0 21 = nI nq2 ∧ dst (sQA f d a n 12) nq2 np
  | 0, _ => ⟨nq, Nat.le_refl _, hn, hd⟩
  | n + 1, hf => by
    obtain ⟨nq1, h1, h2, h3⟩ := sQA_dst (d := d) hn hd hnp n (fun i hi => hf i (by omega))
    obtain ⟨q, hq, hp⟩ := hf n (by omega)
    obtain ⟨nq2, k1, k2, k3⟩ := sQ_dst (d := d) h2 h3 hq hp hnp
    exact ⟨nq2, by omega, k2, k3⟩
theorem sQA_congr {f f' : Nat → Int32} {d : Int32} {a : gA} : ∀ (n : Nat), (∀ i, i < n → f i = f' i) → sQA f d a n = sQA f' d a n
  | 0, _ => rfl
  | n + 1, h => by
    show sQ _ _ _ = sQ _ _ _
    rw [sQA_congr n (fun i hi => h i (by omega)), h n (by omega)]
def sHc (a2 : gA) (q : Int32) : gA := gu (gu a2 15 (cn a2 25) q) 0 25 (nI (cn a2 25 + 1))
def sH3 (a2 : gA) (q d : Int32) : gA := if q = -1 ∨ pEq (a2 15) q (cn a2 25) = true then a2 else if d < a2 0 14 then sQA (fun i => a2 6 (5 * q.toNatClampNeg + i)) (d + 1) (sHc a2 q) (a2 7 q.toNatClampNeg).toNatClampNeg else sHc a2 q
def sH4 (a3 : gA) : gA := if a3 0 33 + 1 = a3 0 17 then sMk (gu a3 0 33 (a3 0 33 + 1)) else gu a3 0 33 (a3 0 33 + 1)
/-- an entry is handled -/
def sH (a : gA) : gA := sH4 (sH3 (sF2 (cn a 15 + 1) (gu a 0 20 (nI (cn a 20 + 1))) (a 12 (cn a 20)).toNatClampNeg) (sC2 (gu a 0 20 (nI (cn a 20 + 1))) (cn a 15 + 1) (a 12 (cn a 20)).toNatClampNeg) (a 13 (cn a 20)))
theorem sH3_sc {a2 : gA} {q d : Int32} {j : Nat} (h1 : j ≠ 25) (h2 : j ≠ 21) : sH3 a2 q d 0 j = a2 0 j := by
  have hc : sHc a2 q 0 j = a2 0 j := by
    unfold sHc
    rw [gu_off (fun q => h1 q.2), gu_off (fun q => absurd q.1 (by decide))]
  unfold sH3
  split
  · rfl
  · split
    · rw [qk_sQA _ _ _ _ 0 j (by omega)]
      exact hc
    · exact hc
theorem sH3_row {a2 : gA} {q d : Int32} {r : Nat} (h0 : r ≠ 0) (h1 : r ≠ 12) (h2 : r ≠ 13) (h3 : r ≠ 15) : sH3 a2 q d r = a2 r := by
  have hc : sHc a2 q r = a2 r := by
    unfold sHc
    rw [gu_ne h0, gu_ne h3]
  unfold sH3
  split
  · rfl
  · split
    · rw [qk_row (qk_sQA _ _ _ _) h0 h1 h2]
      exact hc
    · exact hc
theorem wk_sH3 (a2 : gA) (q d : Int32) : wk a2 (sH3 a2 q d) := ⟨fun r p q => sH3_row (by omega) (by omega) (by omega) (by omega), fun j p => sH3_sc (by omega) (by omega)⟩
theorem wk_sMk (a : gA) : wk a (sMk a) := wk_tr (wk_tr (wk_tr (wk_tr (wk_sc (by decide)) (wk_sc (by decide))) (wk_sc (by decide))) (wk_sc (by decide))) (wk_sc (by decide))
theorem wk_sH4 (a : gA) : wk a (sH4 a) := by
  unfold sH4
  split
  · exact wk_tr (wk_sc (by decide)) (wk_sMk _)
  · exact wk_sc (by decide)
theorem wk_sH (a : gA) : wk a (sH a) := wk_tr (wk_tr (wk_tr (wk_sc (by decide)) (wk_sF2 _ _ _)) (wk_sH3 _ _ _)) (wk_sH4 _)
/-- the gathering keeps to its bounds -/
def WFg (np : Nat) (a : gA) : Prop := ∃ hd nq nf ng mh mq mf mg hp, a 0 20 = nI hd ∧ a 0 21 = nI nq ∧ a 0 23 = nI nf ∧ a 0 25 = nI ng ∧ a 0 29 = nI mh ∧ a 0 30 = nI mq ∧ a 0 31 = nI mf ∧ a 0 32 = nI mg ∧ a 0 33 = nI (hd - mh) ∧ a 0 15 = nI hp ∧ hp ≤ 4 ∧ hd ≤ nq ∧ mh ≤ hd ∧ mh ≤ mq ∧ mq ≤ nq ∧ mf ≤ nf ∧ mg ≤ ng ∧ dst (a 12) nq np ∧ dst (a 14) nf np ∧ dst (a 15) ng np
theorem WFg_mark {np : Nat} {a : gA} {hd nq nf ng hp : Nat} (h1 : a 0 20 = nI hd) (h2 : a 0 21 = nI nq) (h3 : a 0 23 = nI nf) (h4 : a 0 25 = nI ng) (h5 : a 0 15 = nI hp) (h6 : hp ≤ 4) (h7 : hd ≤ nq) (d1 : dst (a 12) nq np) (d2 : dst (a 14) nf np) (d3 : dst (a 15) ng np) : WFg np (sMk a) :=
  ⟨hd, nq, nf, ng, hd, nq, nf, ng, hp, h1, h2, h3, h4, h1, h2, h3, h4, (by rw [Nat.sub_self]; rfl), h5, h6, h7, Nat.le_refl _, h7, Nat.le_refl _, Nat.le_refl _, Nat.le_refl _, d1, d2, d3⟩
theorem sH3_q {np nq ng : Nat} {a2 : gA} {q d : Int32} (hw : WFw np a2) (h1 : a2 0 21 = nI nq) (d1 : dst (a2 12) nq np) (h2 : a2 0 25 = nI ng) (d2 : dst (a2 15) ng np) (hq : q = -1 ∨ ∃ Q1, Q1 < np ∧ q = nI Q1) :
    ∃ nq2 ng2, nq ≤ nq2 ∧ ng ≤ ng2 ∧ sH3 a2 q d 0 21 = nI nq2 ∧ dst (sH3 a2 q d 12) nq2 np ∧ sH3 a2 q d 0 25 = nI ng2 ∧ dst (sH3 a2 q d 15) ng2 np := by
  have hng := dst_le d2 hw.1
  have hnp := hw.1
  unfold sH3
  split
  · exact ⟨nq, ng, Nat.le_refl _, Nat.le_refl _, h1, d1, h2, d2⟩
  · rename_i c1
    have hc : cn a2 25 = ng := cn_of h2 (by omega)
    rw [hc] at c1
    obtain ⟨Q1, hQ, rfl⟩ : ∃ Q1, Q1 < np ∧ q = nI Q1 := hq.elim (fun e => absurd (Or.inl e) c1) id
    have hne : pEq (a2 15) (nI Q1) ng = false := by
      cases e : pEq (a2 15) (nI Q1) ng with
      | true => exact absurd (Or.inr e) c1
      | false => rfl
    have e1 : sHc a2 (nI Q1) 0 25 = nI (ng + 1) := by unfold sHc; rw [hc]; rfl
    have e2 : dst (sHc a2 (nI Q1) 15) (ng + 1) np := by unfold sHc; rw [hc]; exact dst_push d2 hQ rfl hne
    have e3 : sHc a2 (nI Q1) 0 21 = nI nq := h1
    have e4 : dst (sHc a2 (nI Q1) 12) nq np := d1
    split
    · obtain ⟨k, hk, hlk, hl⟩ := (hw.2.2.1 Q1 hQ).2.2.2.2
      rw [nI_clamp (by omega), hlk, nI_clamp (by omega)]
      obtain ⟨nq2, g1, g2, g3⟩ := sQA_dst (f := fun i => a2 6 (5 * Q1 + i)) (d := d + 1) e3 e4 hnp k hl
      refine ⟨nq2, ng + 1, g1, by omega, g2, g3, ?_, ?_⟩
      · rw [qk_sQA _ _ _ _ 0 25 (by omega)]; exact e1
      · rw [qk_row (qk_sQA _ _ _ _) (by decide) (by decide) (by decide)]; exact e2
    · exact ⟨nq, ng + 1, Nat.le_refl _, by omega, e3, e4, e1, e2⟩
theorem WFg_sH {np : Nat} {a : gA} (hw : WFw np a) (hg : WFg np a) (hlt : cn a 20 < cn a 21) : WFg np (sH a) := by
  obtain ⟨hd, nq, nf, ng, mh, mq, mf, mg, hp, e20, e21, e23, e25, e29, e30, e31, e32, e33, e15, hp4, hdq, mhd, mhq, mqq, mff, mgg, d12, d14, d15⟩ := hg
  have hnp := hw.1
  have hnq := dst_le d12 hnp
  rw [cn_of e20 (by omega), cn_of e21 (by omega)] at hlt
  obtain ⟨P, hP, eP⟩ := d12.1 hd hlt
  have hw1 : WFw np (gu a 0 20 (nI (hd + 1))) := WFw_wk (wk_sc (by decide)) hw
  have hqv := sC2_pg hw1 (hp + 1) P hP
  obtain ⟨nf2, f1, f2, f3⟩ := sF2_dst (hp + 1) (a := gu a 0 20 (nI (hd + 1))) hw1 e23 d14 hP
  unfold sH
  rw [cn_of e20 (by omega), cn_of e15 (by omega), eP, nI_clamp (by omega)]
  generalize hq : sC2 (gu a 0 20 (nI (hd + 1))) (hp + 1) P = q at hqv ⊢
  generalize ha2 : sF2 (hp + 1) (gu a 0 20 (nI (hd + 1))) P = a2 at f2 f3 ⊢
  have hw2 : WFw np a2 := by rw [← ha2]; exact WFw_wk (wk_sF2 _ _ _) hw1
  have s2 : ∀ j, j ≠ 26 → j ≠ 23 → j ≠ 28 → a2 0 j = gu a 0 20 (nI (hd + 1)) 0 j := fun j p1 p2 p3 => by rw [← ha2]; exact sF2_sc _ _ _ p1 p2 p3
  have r2 : ∀ r, r ≠ 0 → r ≠ 14 → r ≠ 16 → a2 r = a r := fun r p1 p2 p3 => by rw [← ha2, sF2_row _ _ _ p1 p2 p3]; exact gu_ne p1
  obtain ⟨nq2, ng2, q1, q2, q3, q4, q5, q6⟩ := sH3_q (d := a 13 hd) hw2 ((s2 21 (by decide) (by decide) (by decide)).trans e21) (by rw [r2 12 (by decide) (by decide) (by decide)]; exact d12) ((s2 25 (by decide) (by decide) (by decide)).trans e25) (by rw [r2 15 (by decide) (by decide) (by decide)]; exact d15) hqv
  have s3 : ∀ j, j ≠ 25 → j ≠ 21 → sH3 a2 q (a 13 hd) 0 j = a2 0 j := fun j p1 p2 => sH3_sc p1 p2
  have r3 : sH3 a2 q (a 13 hd) 14 = a2 14 := sH3_row (by decide) (by decide) (by decide) (by decide)
  generalize ha3 : sH3 a2 q (a 13 hd) = a3 at q3 q4 q5 q6 s3 r3 ⊢
  have t20 : a3 0 20 = nI (hd + 1) := (s3 20 (by decide) (by decide)).trans (s2 20 (by decide) (by decide) (by decide))
  have t23 : a3 0 23 = nI nf2 := (s3 23 (by decide) (by decide)).trans f2
  have t14 : dst (a3 14) nf2 np := by rw [r3]; exact f3
  have t33 : a3 0 33 + 1 = nI (hd + 1 - mh) := by
    rw [(s3 33 (by decide) (by decide)).trans ((s2 33 (by decide) (by decide) (by decide)).trans e33), nI_1]
    congr 1
    omega
  unfold sH4
  rw [t33]
  split
  · exact WFg_mark (hd := hd + 1) (nq := nq2) (nf := nf2) (ng := ng2) (hp := hp) t20 q3 t23 q5 ((s3 15 (by decide) (by decide)).trans ((s2 15 (by decide) (by decide) (by decide)).trans e15)) hp4 (by omega) q4 t14 q6
  · exact ⟨hd + 1, nq2, nf2, ng2, mh, mq, mf, mg, hp, t20, q3, t23, q5, (s3 29 (by decide) (by decide)).trans ((s2 29 (by decide) (by decide) (by decide)).trans e29), (s3 30 (by decide) (by decide)).trans ((s2 30 (by decide) (by decide) (by decide)).trans e30), (s3 31 (by decide) (by decide)).trans ((s2 31 (by decide) (by decide) (by decide)).trans e31), (s3 32 (by decide) (by decide)).trans ((s2 32 (by decide) (by decide) (by decide)).trans e32), rfl, (s3 15 (by decide) (by decide)).trans ((s2 15 (by decide) (by decide) (by decide)).trans e15), hp4, by omega, by omega, mhq, by omega, by omega, by omega, q4, t14, q6⟩
