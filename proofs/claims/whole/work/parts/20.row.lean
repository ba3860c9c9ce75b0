/-! specs_row -/
set_option maxHeartbeats 400000 in
set_option maxRecDepth 20000 in
theorem B_Row_add (l : Launch) {g : gG} {A : Nat → Prop} {ad : Nat → Nat} {np : Nat} {u v : gS} {k n cap : Nat} {q0 : Nat × Nat × Nat} {lo : Nat → Nat × Nat × Nat} {x : Int32} (hr : gRow np k q0 lo cap) (hn : gr u v q0 = nI n) (hc : n ≤ cap) : BdI l b_Row_add 2 R_Row 0 [.ref (ad k), .int x] g A ad np u v (fun r t => (n < cap → r = 1 ∧ t = gx (gx u v (lo n) x).1 (gx u v (lo n) x).2 q0 (nI (n + 1))) ∧ (cap ≤ n → r = 0 ∧ t = (u, v))) := by
  intro p e R s m args below meth c Q ls X hW hS hR hl hret
  have hx := X.1.1
  have hb := X.1.2.1
  have hml := X.1.2.2.1
  have hown := X.1.2.2.2.1
  have hts := X.1.2.2.2.2
  have hK := X.2.1
  have hl : lv_has ls 2 [(0, .ref (ad k)), (1, .int x)] := hl
  have hcap := hr.2.2.2.2.1
  refine lv_aload_n hx hb d_Row_add_0 rfl (lv_at hl 0 rfl) ?_
  refine gf_Row_15 (z := nI n) X hW (Nat.lt_trans (Nat.lt_succ_self _) hr.1) hr.2.1 hr.2.2.2.2.2.1 hr.2.2.2.2.2.2.1 hn d_Row_add_1 ?_
  refine lv_aload_n hx hb d_Row_add_4 rfl (lv_at hl 0 rfl) ?_
  refine gf_Row_9 X hW (Nat.lt_trans (Nat.lt_succ_self _) hr.1) hr.2.1 d_Row_add_5 ?_
  refine gy_al (n := cap) hx hb hK hW hr.1 hr.2.2.1 hr.2.2.2.1 d_Row_add_8 ?_
  refine lv_icmp_lt (tgt := 14) hx hb d_Row_add_9 (by decide) (fun h9 => ?_) (fun h9 => ?_)
  · -- 9 t
    have h9 : n < cap := (nI_ltI (a := n) (b := cap) (by omega) (by omega)).mp h9
    refine lv_aload_n hx hb d_Row_add_14 rfl (lv_at hl 0 rfl) ?_
    refine gf_Row_9 X hW (Nat.lt_trans (Nat.lt_succ_self _) hr.1) hr.2.1 d_Row_add_15 ?_
    refine lv_aload_n hx hb d_Row_add_18 rfl (lv_at hl 0 rfl) ?_
    refine gf_Row_15 (z := nI n) X hW (Nat.lt_trans (Nat.lt_succ_self _) hr.1) hr.2.1 hr.2.2.2.2.2.1 hr.2.2.2.2.2.2.1 hn d_Row_add_19 ?_
    refine lv_iload_n hx hb d_Row_add_22 rfl (lv_at hl 1 rfl) ?_
    refine gy_is (z := x) (q := lo n) hx hb hK hW hS hr.1 hr.2.2.1 (by rw [hr.2.2.2.1]; exact vp_in_nI (by omega) (by omega)) (hr.2.2.2.2.2.2.2 _ (by omega)).1 ((hr.2.2.2.2.2.2.2 _ (by omega)).2.trans (by rw [nI_clamp (by omega)])) d_Row_add_23 (fun H locs hW hS => ?_)
    have hW : gW g A ad np (gx u v (lo n) x).1 (gx u v (lo n) x).2 H := hW
    refine lv_aload_n hx hb d_Row_add_24 rfl (lv_at hl 0 rfl) ?_
    refine lv_dup hx hb d_Row_add_25 rfl ?_
    refine gf_Row_15 (z := nI n) X hW (Nat.lt_trans (Nat.lt_succ_self _) hr.1) hr.2.1 hr.2.2.2.2.2.1 hr.2.2.2.2.2.2.1 (by rw [gr_gx_ne (gRow_ne hr (by omega)) (gv_sp (hr.2.2.2.2.2.2.2 _ (by omega)).1) (gv_sp hr.2.2.2.2.2.1)]; exact hn) d_Row_add_26 ?_
    refine lv_iconst (v := 1) hx hb d_Row_add_29 (by decide) ?_
    refine lv_iadd hx hb d_Row_add_30 ?_
    rw [show (nI n) + 1 = nI (n + 1) from nI_1 n]
    refine pf_Row_15 (z := nI (n + 1)) X hW hS (Nat.lt_trans (Nat.lt_succ_self _) hr.1) hr.2.1 hr.2.2.2.2.2.1 hr.2.2.2.2.2.2.1 rfl rfl d_Row_add_31 (fun H locs hW hS => ?_)
    have hW : gW g A ad np (gx ((gx u v (lo n) x).1) ((gx u v (lo n) x).2) q0 (nI (n + 1))).1 (gx ((gx u v (lo n) x).1) ((gx u v (lo n) x).2) q0 (nI (n + 1))).2 H := hW
    refine lv_iconst (v := 1) hx hb d_Row_add_34 (by decide) ?_
    refine hret 1 ((gx ((gx u v (lo n) x).1) ((gx u v (lo n) x).2) q0 (nI (n + 1))).1, (gx ((gx u v (lo n) x).1) ((gx u v (lo n) x).2) q0 (nI (n + 1))).2) _ _ _ _ ?_ hW hS d_Row_add_35
    exact ⟨fun _ => ⟨rfl, rfl⟩, fun q => absurd q (by omega)⟩
  · -- 9 f
    have h9 : cap ≤ n := Nat.le_of_not_lt fun q => h9 ((nI_ltI (a := n) (b := cap) (by omega) (by omega)).mpr q)
    refine lv_iconst (v := 0) hx hb d_Row_add_12 (by decide) ?_
    refine hret 0 (u, v) _ _ _ _ ?_ hW hS d_Row_add_13
    exact ⟨fun q => absurd q (by omega), fun _ => ⟨rfl, rfl⟩⟩
theorem C_Row_add (l : Launch) {g : gG} {A : Nat → Prop} {ad : Nat → Nat} {np : Nat} {u v : gS} {k n cap : Nat} {q0 : Nat × Nat × Nat} {lo : Nat → Nat × Nat × Nat} {x : Int32} (hr : gRow np k q0 lo cap) (hn : gr u v q0 = nI n) (hc : n ≤ cap) : CtI l y_Row_add b_Row_add 2 .boolean 0 [.ref (ad k), .int x] g A ad np u v (fun r t => (n < cap → r = 1 ∧ t = gx (gx u v (lo n) x).1 (gx u v (lo n) x).2 q0 (nI (n + 1))) ∧ (cap ≤ n → r = 0 ∧ t = (u, v))) := mkI (by decide) rfl (Nat.le_of_ble_eq_true rfl) (fun r t h => by rcases Nat.lt_or_ge n cap with hc | hc; exact (h.1 hc).1 ▸ rfl; exact (h.2 hc).1 ▸ rfl) (B_Row_add l hr hn hc)

set_option maxHeartbeats 400000 in
set_option maxRecDepth 20000 in
theorem B_Row_holds (l : Launch) {g : gG} {A : Nat → Prop} {ad : Nat → Nat} {np : Nat} {u v : gS} {k n cap : Nat} {q0 : Nat × Nat × Nat} {lo : Nat → Nat × Nat × Nat} {f : Nat → Int32} {x : Int32} (hr : gRow np k q0 lo cap) (hn : gr u v q0 = nI n) (hc : n ≤ cap) (hf : ∀ i, i < cap → gr u v (lo i) = f i) : BdI l b_Row_holds 3 R_Row 0 [.ref (ad k), .int x] g A ad np u v (fun r t => t = (u, v) ∧ r = bI (pEq f x n)) := by
  intro p e R s m args below meth c Q ls X hW hS hR hl hret
  have hx := X.1.1
  have hb := X.1.2.1
  have hml := X.1.2.2.1
  have hown := X.1.2.2.2.1
  have hts := X.1.2.2.2.2
  have hK := X.2.1
  have hl : lv_has ls 3 [(0, .ref (ad k)), (1, .int x)] := hl
  have hcap := hr.2.2.2.2.1
  refine lv_iconst (v := 0) hx hb d_Row_holds_0 (by decide) ?_
  refine lv_istore_n hx hb d_Row_holds_1 rfl hl (by decide) rfl (fun ls hl => ?_)
  have hl : lv_has ls 3 [(2, .int 0), (0, .ref (ad k)), (1, .int x)] := hl
  have lp2 : ∀ (fuel : Nat) (i : Nat) (ls : Array Slot) (H : Heap) (locs : List Loc), (i ≤ n) → (pEq f x i = false) → n - i < fuel → lv_has ls 3 [(0, .ref (ad k)), (1, .int x), (2, .int (nI i))] → gW g A ad np u v H → va_S A s.heap H locs → W p l e R s m args below meth c H locs 0 0 Q (F0 m 2 ls []) := by
    intro fuel
    induction fuel with
    | zero => intro i ls H locs _ _ hfu; exact absurd hfu (Nat.not_lt_zero _)
    | succ fuel ih2 =>
      intro i ls H locs hi hp hfu hl hW hS
      refine lv_iload_n hx hb d_Row_holds_2 rfl (lv_at hl 2 rfl) ?_
      refine lv_aload_n hx hb d_Row_holds_3 rfl (lv_at hl 0 rfl) ?_
      refine gf_Row_15 (z := nI n) X hW (Nat.lt_trans (Nat.lt_succ_self _) hr.1) hr.2.1 hr.2.2.2.2.2.1 hr.2.2.2.2.2.2.1 hn d_Row_holds_4 ?_
      refine lv_icmp_ge (tgt := 28) hx hb d_Row_holds_7 (by decide) (fun h7 => ?_) (fun h7 => ?_)
      · -- 7 t
        have h7 : n ≤ i := (nI_leI (a := n) (b := i) (by omega) (by omega)).mp h7
        refine lv_iconst (v := 0) hx hb d_Row_holds_28 (by decide) ?_
        refine hret 0 (u, v) _ _ _ _ ?_ hW hS d_Row_holds_29
        exact ⟨rfl, by rw [show n = i by omega, hp]; rfl⟩
      · -- 7 f
        have h7 : i < n := Nat.lt_of_not_le fun q => h7 ((nI_leI (a := n) (b := i) (by omega) (by omega)).mpr q)
        refine lv_aload_n hx hb d_Row_holds_10 rfl (lv_at hl 0 rfl) ?_
        refine gf_Row_9 X hW (Nat.lt_trans (Nat.lt_succ_self _) hr.1) hr.2.1 d_Row_holds_11 ?_
        refine lv_iload_n hx hb d_Row_holds_14 rfl (lv_at hl 2 rfl) ?_
        refine gy_ia (z := f i) (q := lo i) hx hb hK hW hr.1 hr.2.2.1 (by rw [hr.2.2.2.1]; exact vp_in_nI (by omega) (by omega)) (hr.2.2.2.2.2.2.2 _ (by omega)).1 ((hr.2.2.2.2.2.2.2 _ (by omega)).2.trans (by rw [nI_clamp (by omega)])) (hf _ (by omega)) d_Row_holds_15 ?_
        refine lv_iload_n hx hb d_Row_holds_16 rfl (lv_at hl 1 rfl) ?_
        refine lv_icmp_ne (tgt := 22) hx hb d_Row_holds_17 (by decide) (fun h17 => ?_) (fun h17 => ?_)
        · -- 17 t
          refine lv_iinc (v := nI (i + 1)) (k := 2) hx hb d_Row_holds_22 hl rfl (nI_inc i) (by decide) rfl (fun ls hl => ?_)
          have hl : lv_has ls 3 [(2, .int (nI (i + 1))), (0, .ref (ad k)), (1, .int x)] := hl
          refine lv_goto (tgt := 2) hx hb d_Row_holds_25 (by decide) ?_
          exact ih2 (i + 1) _ _ _ (by omega) (pEq_step hp h17) (by omega) (lv_sub hl [1, 2, 0] rfl) hW hS
        · -- 17 f
          refine lv_iconst (v := 1) hx hb d_Row_holds_20 (by decide) ?_
          refine hret 1 (u, v) _ _ _ _ ?_ hW hS d_Row_holds_21
          exact ⟨rfl, by rw [pEq_hit h17 (show i < n by omega)]; rfl⟩
  exact lp2 _ 0 _ _ _ (Nat.zero_le _) rfl (Nat.lt_succ_self _) (lv_sub hl [1, 2, 0] rfl) hW hS
theorem C_Row_holds (l : Launch) {g : gG} {A : Nat → Prop} {ad : Nat → Nat} {np : Nat} {u v : gS} {k n cap : Nat} {q0 : Nat × Nat × Nat} {lo : Nat → Nat × Nat × Nat} {f : Nat → Int32} {x : Int32} (hr : gRow np k q0 lo cap) (hn : gr u v q0 = nI n) (hc : n ≤ cap) (hf : ∀ i, i < cap → gr u v (lo i) = f i) : CtI l y_Row_holds b_Row_holds 3 .boolean 0 [.ref (ad k), .int x] g A ad np u v (fun r t => t = (u, v) ∧ r = bI (pEq f x n)) := mkI (by decide) rfl (Nat.le_of_ble_eq_true rfl) (fun r t h => h.2 ▸ bI_nar _) (B_Row_holds l hr hn hc hf)

set_option maxHeartbeats 400000 in
set_option maxRecDepth 20000 in
theorem B_Row_at (l : Launch) {g : gG} {A : Nat → Prop} {ad : Nat → Nat} {np : Nat} {u v : gS} {k n cap : Nat} {q0 : Nat × Nat × Nat} {lo : Nat → Nat × Nat × Nat} {f : Nat → Int32} {x : Int32} (hr : gRow np k q0 lo cap) (hn : gr u v q0 = nI n) (hc : n ≤ cap) (hf : ∀ i, i < cap → gr u v (lo i) = f i) : BdI l b_Row_at 2 R_Row 0 [.ref (ad k), .int x] g A ad np u v (fun r t => t = (u, v) ∧ r = if 0 ≤ x ∧ x < nI n then f x.toNatClampNeg else -1) := by
  intro p e R s m args below meth c Q ls X hW hS hR hl hret
  have hx := X.1.1
  have hb := X.1.2.1
  have hml := X.1.2.2.1
  have hown := X.1.2.2.2.1
  have hts := X.1.2.2.2.2
  have hK := X.2.1
  have hl : lv_has ls 2 [(0, .ref (ad k)), (1, .int x)] := hl
  have hcap := hr.2.2.2.2.1
  refine lv_iconst (v := 0) hx hb d_Row_at_0 (by decide) ?_
  refine lv_iload_n hx hb d_Row_at_1 rfl (lv_at hl 1 rfl) ?_
  refine lv_icmp_gt (tgt := 22) hx hb d_Row_at_2 (by decide) (fun h2 => ?_) (fun h2 => ?_)
  · -- 2 t
    refine lv_iconst (v := (-1)) hx hb d_Row_at_22 (by decide) ?_
    refine hret (-1) (u, v) _ _ _ _ ?_ hW hS d_Row_at_23
    exact ⟨rfl, by rw [if_neg (fun q => by first | exact absurd q.1 (Int32.not_le.mpr h2) | exact absurd q.2 (Int32.not_lt.mpr h10))]⟩
  · -- 2 f
    refine lv_iload_n hx hb d_Row_at_5 rfl (lv_at hl 1 rfl) ?_
    refine lv_aload_n hx hb d_Row_at_6 rfl (lv_at hl 0 rfl) ?_
    refine gf_Row_15 (z := nI n) X hW (Nat.lt_trans (Nat.lt_succ_self _) hr.1) hr.2.1 hr.2.2.2.2.2.1 hr.2.2.2.2.2.2.1 hn d_Row_at_7 ?_
    refine lv_icmp_ge (tgt := 22) hx hb d_Row_at_10 (by decide) (fun h10 => ?_) (fun h10 => ?_)
    · -- 10 t
      refine lv_iconst (v := (-1)) hx hb d_Row_at_22 (by decide) ?_
      refine hret (-1) (u, v) _ _ _ _ ?_ hW hS d_Row_at_23
      exact ⟨rfl, by rw [if_neg (fun q => by first | exact absurd q.1 (Int32.not_le.mpr h2) | exact absurd q.2 (Int32.not_lt.mpr h10))]⟩
    · -- 10 f
      obtain ⟨j, hj, rfl⟩ : ∃ j : Nat, j < n ∧ x = nI j := by
        rcases pk_ix x (n := n) (by omega) with q | q | q
        · exact absurd (Int32.not_lt.mp h2) (fun z => absurd q (Int32.not_lt.mpr z))
        · exact absurd q h10
        · exact q
      refine lv_aload_n hx hb d_Row_at_13 rfl (lv_at hl 0 rfl) ?_
      refine gf_Row_9 X hW (Nat.lt_trans (Nat.lt_succ_self _) hr.1) hr.2.1 d_Row_at_14 ?_
      refine lv_iload_n hx hb d_Row_at_17 rfl (lv_at hl 1 rfl) ?_
      refine gy_ia (z := f j) (q := lo j) hx hb hK hW hr.1 hr.2.2.1 (by rw [hr.2.2.2.1]; exact vp_in_nI (by omega) (by omega)) (hr.2.2.2.2.2.2.2 _ (by omega)).1 ((hr.2.2.2.2.2.2.2 _ (by omega)).2.trans (by rw [nI_clamp (by omega)])) (hf _ (by omega)) d_Row_at_18 ?_
      refine lv_goto (tgt := 23) hx hb d_Row_at_19 (by decide) ?_
      refine hret (f j) (u, v) _ _ _ _ ?_ hW hS d_Row_at_23
      exact ⟨rfl, by rw [if_pos ⟨nI_pos' (by omega), nI_lt hj (by omega)⟩, nI_clamp (by omega)]⟩
theorem C_Row_at (l : Launch) {g : gG} {A : Nat → Prop} {ad : Nat → Nat} {np : Nat} {u v : gS} {k n cap : Nat} {q0 : Nat × Nat × Nat} {lo : Nat → Nat × Nat × Nat} {f : Nat → Int32} {x : Int32} (hr : gRow np k q0 lo cap) (hn : gr u v q0 = nI n) (hc : n ≤ cap) (hf : ∀ i, i < cap → gr u v (lo i) = f i) : CtI l y_Row_at b_Row_at 2 .int 0 [.ref (ad k), .int x] g A ad np u v (fun r t => t = (u, v) ∧ r = if 0 ≤ x ∧ x < nI n then f x.toNatClampNeg else -1) := mkI (by decide) rfl (Nat.le_of_ble_eq_true rfl) (fun _ _ _ => rfl) (B_Row_at l hr hn hc hf)

set_option maxHeartbeats 400000 in
set_option maxRecDepth 20000 in
theorem B_Row_sameAs (l : Launch) {g : gG} {A : Nat → Prop} {ad : Nat → Nat} {np : Nat} {u v : gS} {k n cap k2 n2 cap2 : Nat} {q0 q2 : Nat × Nat × Nat} {lo lo2 : Nat → Nat × Nat × Nat} {f f2 : Nat → Int32} (hr : gRow np k q0 lo cap) (hn : gr u v q0 = nI n) (hc : n ≤ cap) (hf : ∀ i, i < cap → gr u v (lo i) = f i) (hr2 : gRow np k2 q2 lo2 cap2) (hn2 : gr u v q2 = nI n2) (hc2 : n2 ≤ cap2) (hf2 : ∀ i, i < cap2 → gr u v (lo2 i) = f2 i) : BdI l b_Row_sameAs 3 R_Row 0 [.ref (ad k), .ref (ad k2)] g A ad np u v (fun r t => t = (u, v) ∧ r = bI (decide (n = n2) && pSm f f2 n)) := by
  intro p e R s m args below meth c Q ls X hW hS hR hl hret
  have hx := X.1.1
  have hb := X.1.2.1
  have hml := X.1.2.2.1
  have hown := X.1.2.2.2.1
  have hts := X.1.2.2.2.2
  have hK := X.2.1
  have hl : lv_has ls 3 [(0, .ref (ad k)), (1, .ref (ad k2))] := hl
  have hcap := hr.2.2.2.2.1
  have hcap2 := hr2.2.2.2.2.1
  refine lv_aload_n hx hb d_Row_sameAs_0 rfl (lv_at hl 0 rfl) ?_
  refine gf_Row_15 (z := nI n) X hW (Nat.lt_trans (Nat.lt_succ_self _) hr.1) hr.2.1 hr.2.2.2.2.2.1 hr.2.2.2.2.2.2.1 hn d_Row_sameAs_1 ?_
  refine lv_aload_n hx hb d_Row_sameAs_4 rfl (lv_at hl 1 rfl) ?_
  refine gf_Row_15 (z := nI n2) X hW (Nat.lt_trans (Nat.lt_succ_self _) hr2.1) hr2.2.1 hr2.2.2.2.2.2.1 hr2.2.2.2.2.2.2.1 hn2 d_Row_sameAs_5 ?_
  refine lv_icmp_eq (tgt := 13) hx hb d_Row_sameAs_8 (by decide) (fun h8 => ?_) (fun h8 => ?_)
  · -- 8 t
    have h8 : n = n2 := (nI_eq (a := n) (b := n2) (by omega) (by omega)).mp h8
    refine lv_iconst (v := 0) hx hb d_Row_sameAs_13 (by decide) ?_
    refine lv_istore_n hx hb d_Row_sameAs_14 rfl hl (by decide) rfl (fun ls hl => ?_)
    have hl : lv_has ls 3 [(2, .int 0), (0, .ref (ad k)), (1, .ref (ad k2))] := hl
    have lp15 : ∀ (fuel : Nat) (i : Nat) (ls : Array Slot) (H : Heap) (locs : List Loc), (i ≤ n) → (pSm f f2 i = true) → n - i < fuel → lv_has ls 3 [(0, .ref (ad k)), (1, .ref (ad k2)), (2, .int (nI i))] → gW g A ad np u v H → va_S A s.heap H locs → W p l e R s m args below meth c H locs 0 0 Q (F0 m 15 ls []) := by
      intro fuel
      induction fuel with
      | zero => intro i ls H locs _ _ hfu; exact absurd hfu (Nat.not_lt_zero _)
      | succ fuel ih15 =>
        intro i ls H locs hi hp hfu hl hW hS
        refine lv_iload_n hx hb d_Row_sameAs_15 rfl (lv_at hl 2 rfl) ?_
        refine lv_aload_n hx hb d_Row_sameAs_16 rfl (lv_at hl 0 rfl) ?_
        refine gf_Row_15 (z := nI n) X hW (Nat.lt_trans (Nat.lt_succ_self _) hr.1) hr.2.1 hr.2.2.2.2.2.1 hr.2.2.2.2.2.2.1 hn d_Row_sameAs_17 ?_
        refine lv_icmp_ge (tgt := 46) hx hb d_Row_sameAs_20 (by decide) (fun h20 => ?_) (fun h20 => ?_)
        · -- 20 t
          have h20 : n ≤ i := (nI_leI (a := n) (b := i) (by omega) (by omega)).mp h20
          refine lv_iconst (v := 1) hx hb d_Row_sameAs_46 (by decide) ?_
          refine hret 1 (u, v) _ _ _ _ ?_ hW hS d_Row_sameAs_47
          exact ⟨rfl, by rw [decide_eq_true h8, show n = i by omega, hp]; rfl⟩
        · -- 20 f
          have h20 : i < n := Nat.lt_of_not_le fun q => h20 ((nI_leI (a := n) (b := i) (by omega) (by omega)).mpr q)
          refine lv_aload_n hx hb d_Row_sameAs_23 rfl (lv_at hl 0 rfl) ?_
          refine gf_Row_9 X hW (Nat.lt_trans (Nat.lt_succ_self _) hr.1) hr.2.1 d_Row_sameAs_24 ?_
          refine lv_iload_n hx hb d_Row_sameAs_27 rfl (lv_at hl 2 rfl) ?_
          refine gy_ia (z := f i) (q := lo i) hx hb hK hW hr.1 hr.2.2.1 (by rw [hr.2.2.2.1]; exact vp_in_nI (by omega) (by omega)) (hr.2.2.2.2.2.2.2 _ (by omega)).1 ((hr.2.2.2.2.2.2.2 _ (by omega)).2.trans (by rw [nI_clamp (by omega)])) (hf _ (by omega)) d_Row_sameAs_28 ?_
          refine lv_aload_n hx hb d_Row_sameAs_29 rfl (lv_at hl 1 rfl) ?_
          refine gf_Row_9 X hW (Nat.lt_trans (Nat.lt_succ_self _) hr2.1) hr2.2.1 d_Row_sameAs_30 ?_
          refine lv_iload_n hx hb d_Row_sameAs_33 rfl (lv_at hl 2 rfl) ?_
          refine gy_ia (z := f2 i) (q := lo2 i) hx hb hK hW hr2.1 hr2.2.2.1 (by rw [hr2.2.2.2.1]; exact vp_in_nI (by omega) (by omega)) (hr2.2.2.2.2.2.2.2 _ (by omega)).1 ((hr2.2.2.2.2.2.2.2 _ (by omega)).2.trans (by rw [nI_clamp (by omega)])) (hf2 _ (by omega)) d_Row_sameAs_34 ?_
          refine lv_icmp_eq (tgt := 40) hx hb d_Row_sameAs_35 (by decide) (fun h35 => ?_) (fun h35 => ?_)
          · -- 35 t
            refine lv_iinc (v := nI (i + 1)) (k := 2) hx hb d_Row_sameAs_40 hl rfl (nI_inc i) (by decide) rfl (fun ls hl => ?_)
            have hl : lv_has ls 3 [(2, .int (nI (i + 1))), (0, .ref (ad k)), (1, .ref (ad k2))] := hl
            refine lv_goto (tgt := 15) hx hb d_Row_sameAs_43 (by decide) ?_
            exact ih15 (i + 1) _ _ _ (by omega) (pSm_step hp h35) (by omega) (lv_sub hl [1, 2, 0] rfl) hW hS
          · -- 35 f
            refine lv_iconst (v := 0) hx hb d_Row_sameAs_38 (by decide) ?_
            refine hret 0 (u, v) _ _ _ _ ?_ hW hS d_Row_sameAs_39
            exact ⟨rfl, by rw [pSm_no h35 (show i < n by omega), Bool.and_false]; rfl⟩
    exact lp15 _ 0 _ _ _ (Nat.zero_le _) rfl (Nat.lt_succ_self _) (lv_sub hl [1, 2, 0] rfl) hW hS
  · -- 8 f
    have h8 : ¬ n = n2 := fun q => h8 ((nI_eq (a := n) (b := n2) (by omega) (by omega)).mpr q)
    refine lv_iconst (v := 0) hx hb d_Row_sameAs_11 (by decide) ?_
    refine hret 0 (u, v) _ _ _ _ ?_ hW hS d_Row_sameAs_12
    exact ⟨rfl, by rw [decide_eq_false h8]; rfl⟩
theorem C_Row_sameAs (l : Launch) {g : gG} {A : Nat → Prop} {ad : Nat → Nat} {np : Nat} {u v : gS} {k n cap k2 n2 cap2 : Nat} {q0 q2 : Nat × Nat × Nat} {lo lo2 : Nat → Nat × Nat × Nat} {f f2 : Nat → Int32} (hr : gRow np k q0 lo cap) (hn : gr u v q0 = nI n) (hc : n ≤ cap) (hf : ∀ i, i < cap → gr u v (lo i) = f i) (hr2 : gRow np k2 q2 lo2 cap2) (hn2 : gr u v q2 = nI n2) (hc2 : n2 ≤ cap2) (hf2 : ∀ i, i < cap2 → gr u v (lo2 i) = f2 i) : CtI l y_Row_sameAs b_Row_sameAs 3 .boolean 0 [.ref (ad k), .ref (ad k2)] g A ad np u v (fun r t => t = (u, v) ∧ r = bI (decide (n = n2) && pSm f f2 n)) := mkI (by decide) rfl (Nat.le_of_ble_eq_true rfl) (fun r t h => h.2 ▸ bI_nar _) (B_Row_sameAs l hr hn hc hf hr2 hn2 hc2 hf2)

set_option maxHeartbeats 400000 in
set_option maxRecDepth 20000 in
theorem B_Row_cutTo (l : Launch) {g : gG} {A : Nat → Prop} {ad : Nat → Nat} {np : Nat} {u v : gS} {k n cap mm : Nat} {q0 : Nat × Nat × Nat} {lo : Nat → Nat × Nat × Nat} (hr : gRow np k q0 lo cap) (hn : gr u v q0 = nI n) (hm : mm ≤ n) (hc : n ≤ cap) : BdV l b_Row_cutTo 2 R_Row 1 [.ref (ad k), .int (nI mm)] g A ad np u v (fun t => t = gx u v q0 (nI mm)) := by
  intro p e R s m args below meth c Q ls X hW hS hR hl hret
  have hx := X.1.1
  have hb := X.1.2.1
  have hml := X.1.2.2.1
  have hown := X.1.2.2.2.1
  have hts := X.1.2.2.2.2
  have hK := X.2.1
  have hl : lv_has ls 2 [(0, .ref (ad k)), (1, .int (nI mm))] := hl
  have hcap := hr.2.2.2.2.1
  refine lv_aload_n hx hb d_Row_cutTo_0 rfl (lv_at hl 0 rfl) ?_
  refine lv_aload_n hx hb d_Row_cutTo_1 rfl (lv_at hl 0 rfl) ?_
  refine gf_Row_15 (z := nI n) X hW (Nat.lt_trans (Nat.lt_succ_self _) hr.1) hr.2.1 hr.2.2.2.2.2.1 hr.2.2.2.2.2.2.1 hn d_Row_cutTo_2 ?_
  refine lv_iload_n hx hb d_Row_cutTo_5 rfl (lv_at hl 1 rfl) ?_
  refine va_mmin hx hb (hml.trans hl.1.symm) hown (hts _ w_Row_math_19) (hts _ w_math_min_static) (hts _ w_math_init) (hts _ w_math_min_code) (Nat.le_trans (Nat.le_of_ble_eq_true rfl) hR.1) (Nat.le_trans (Nat.le_of_ble_eq_true rfl) hR.2) (Nat.zero_le _) (Nat.zero_le _) d_Row_cutTo_6 ?_
  rw [show (if (nI mm) < (nI n) then nI mm else nI n) = nI mm from (by by_cases q : mm < n; exact if_pos ((nI_ltI (by omega) (by omega)).mpr q); rw [if_neg (fun z => q ((nI_ltI (by omega) (by omega)).mp z)), show n = mm by omega])]
  refine pf_Row_15 (z := nI mm) X hW hS (Nat.lt_trans (Nat.lt_succ_self _) hr.1) hr.2.1 hr.2.2.2.2.2.1 hr.2.2.2.2.2.2.1 rfl rfl d_Row_cutTo_9 (fun H locs hW hS => ?_)
  have hW : gW g A ad np (gx u v q0 (nI mm)).1 (gx u v q0 (nI mm)).2 H := hW
  refine hret ((gx u v q0 (nI mm)).1, (gx u v q0 (nI mm)).2) _ _ _ _ ?_ hW hS d_Row_cutTo_12
  exact rfl
theorem C_Row_cutTo (l : Launch) {g : gG} {A : Nat → Prop} {ad : Nat → Nat} {np : Nat} {u v : gS} {k n cap mm : Nat} {q0 : Nat × Nat × Nat} {lo : Nat → Nat × Nat × Nat} (hr : gRow np k q0 lo cap) (hn : gr u v q0 = nI n) (hm : mm ≤ n) (hc : n ≤ cap) : CtV l y_Row_cutTo b_Row_cutTo 2 1 [.ref (ad k), .int (nI mm)] g A ad np u v (fun t => t = gx u v q0 (nI mm)) := mkV (by decide) rfl (Nat.le_of_ble_eq_true rfl) (B_Row_cutTo l hr hn hm hc)

