/-! specs_rank -/
theorem doc_ix {np ng e : Nat} {a : gA} (hg : a 0 25 = nI ng) (hd : dst (a 15) ng np) (hnp : np ≤ 32) (he : e < np) (h : sIsD a (nI e) = true) : ∃ i, i < ng ∧ a 15 i = nI e := by
  have h32 := dst_le hd hnp
  cases hp : pEq (a 15) (nI e) ng with
  | true => exact pEq_of hp
  | false =>
    unfold sIsD rDo at h
    rw [cn_of hg (by omega), hp, if_pos rfl, Bool.and_eq_true, decide_eq_true_eq, decide_eq_true_eq] at h
    exact absurd h.2.symm (nI_neg (by omega) (by decide))
theorem dc_one {a : gA} {i i0 : Nat} (h1 : sIsD a (a 15 i) = true) (h2 : sIsD a (a 15 i0) = true) (h : dcN a i = dcN a i0) : i = i0 := by
  rcases Nat.lt_trichotomy i i0 with c | c | c
  · exact absurd (dcN_lt h1 c) (by omega)
  · exact c
  · exact absurd (dcN_lt h2 c) (by omega)
def LE (a : gA) (hp : Nat) (x : gA) (e : Nat) : Prop := (∀ k, k < lkN a e → x 4 (5 * e + k) = ld a hp e k) ∧ x 5 e = nI (usN a hp e (lkN a e))
set_option maxHeartbeats 400000 in
set_option maxRecDepth 20000 in
theorem B_Rank_documentOf (l : Launch) {g : gG} {A : Nat → Prop} {ad : Nat → Nat} {np : Nat} {a x : gA} {o : gL} {v : gS} {ng : Nat} {w1 : Int32} (hw : WFw np a) (hng : a 0 25 = nI ng) (hd : dst (a 15) ng np) : BdI l b_Rank_documentOf 5 R_Rank 1 [.ref (ad 34), .int w1] g A ad np (a, x, o) v (fun r t => t = ((a, x, o), v) ∧ r = rDo a w1) := by
  intro p e R s m args below meth c Q ls X hW hS hR hl hret
  have hx := X.1.1
  have hb := X.1.2.1
  have hml := X.1.2.2.1
  have hown := X.1.2.2.2.1
  have hts := X.1.2.2.2.2
  have hK := X.2.1
  have hl : lv_has ls 5 [(0, .ref (ad 34)), (1, .int w1)] := hl
  have hnp := hw.1
  have hng32 := dst_le hd hnp
  have hcn : cn a 25 = ng := cn_of hng (by omega)
  refine lv_aload_n hx hb d_Rank_documentOf_0 rfl (lv_at hl 0 rfl) ?_
  refine gf_Rank_15 X hW  d_Rank_documentOf_1 ?_
  refine gf_Rank_47 X hW  d_Rank_documentOf_4 ?_
  refine lv_iload_n hx hb d_Rank_documentOf_7 rfl (lv_at hl 1 rfl) ?_
  refine gc_iV (As := [.int w1]) (b := ad 31) (rest := []) X cw_Rank_52 (C_Row_holds l (u := (a, x, o)) (v := v) (x := w1) (n := ng) (f := a 15) (gRow_31 np) hng (by omega) (fun i _ => rfl)) hW hS (gW_recv (ci := 3) (fs := gf3 ad 31) hK hW (by omega) (fun σ τ => ge_3 rfl σ τ) (r := (R_Row, F_Row, 2)) rfl) ⟨Nat.le_trans (Nat.le_of_ble_eq_true rfl) hR.1, Nat.le_trans (Nat.le_of_ble_eq_true rfl) hR.2⟩ rfl hl.1 rfl (Nat.le_of_ble_eq_true rfl) d_Rank_documentOf_8 ⟨Nat.zero_le _, Nat.zero_le _⟩ (fun r t H locs hp hW hS => ?_)
  obtain ⟨rfl, rfl⟩ := hp
  have hW : gW g A ad np (a, x, o) v H := hW
  refine lv_if_ne (tgt := 16) hx hb d_Rank_documentOf_11 (by decide) (fun h11 => ?_) (fun h11 => ?_)
  · -- 11 t
    have h11 : (pEq (a 15) w1 ng) = true := bI_n0 h11
    obtain ⟨i0, hi0, ei0⟩ := pEq_of h11
    obtain ⟨P, hP, eP⟩ := hd.1 i0 hi0
    obtain rfl : w1 = nI P := ei0.symm.trans eP
    have erd : rDo a (nI P) = sDo a P ng := by unfold rDo; rw [hcn, if_neg (by rw [h11]; decide), nI_clamp (by omega)]
    obtain ⟨wp, hwp8, hwp⟩ := (hw.2.2.1 P hP).2.2.2.1
    refine lv_aload_n hx hb d_Rank_documentOf_16 rfl (lv_at hl 0 rfl) ?_
    refine gf_Rank_9 X hW  d_Rank_documentOf_17 ?_
    refine gf_Rank_56 X hW  d_Rank_documentOf_20 ?_
    refine lv_iload_n hx hb d_Rank_documentOf_23 rfl (lv_at hl 1 rfl) ?_
    refine gy_aP (i := P) hx hb hK hW (by omega) hnp rfl d_Rank_documentOf_24 ?_
    refine gf_Rank_62 X hW (by unfold gp; omega) (gk_p0 P) d_Rank_documentOf_25 ?_
    refine lv_astore_n hx hb d_Rank_documentOf_28 rfl hl (by decide) rfl (fun ls hl => ?_)
    have hl : lv_has ls 5 [(2, .ref (ad (gp P + 1))), (0, .ref (ad 34)), (1, .int (nI P))] := hl
    refine lv_iconst (v := 0) hx hb d_Rank_documentOf_29 (by decide) ?_
    refine lv_istore_n hx hb d_Rank_documentOf_30 rfl hl (by decide) rfl (fun ls hl => ?_)
    have hl : lv_has ls 5 [(3, .int 0), (2, .ref (ad (gp P + 1))), (0, .ref (ad 34)), (1, .int (nI P))] := hl
    have lp31 : ∀ (fuel : Nat) (i : Nat) (ls : Array Slot) (H : Heap) (locs : List Loc), (i ≤ ng) → (sDo a P i = -1) → ng - i < fuel → lv_has ls 5 [(0, .ref (ad 34)), (2, .ref (ad (gp P + 1))), (3, .int (nI i))] → gW g A ad np (a, x, o) v H → va_S A s.heap H locs → W p l e R s m args below meth c H locs 0 0 Q (F0 m 31 ls []) := by
      intro fuel
      induction fuel with
      | zero => intro i ls H locs _ _ hfu; exact absurd hfu (Nat.not_lt_zero _)
      | succ fuel ih31 =>
        intro i ls H locs hi hs hfu hl hW hS
        refine lv_iload_n hx hb d_Rank_documentOf_31 rfl (lv_at hl 2 rfl) ?_
        refine lv_aload_n hx hb d_Rank_documentOf_32 rfl (lv_at hl 0 rfl) ?_
        refine gf_Rank_15 X hW  d_Rank_documentOf_33 ?_
        refine gf_Rank_47 X hW  d_Rank_documentOf_36 ?_
        refine gf_Rank_67 (z := nI ng) X hW (by omega) rfl (gv_0_0_25 _) rfl hng d_Rank_documentOf_39 ?_
        refine lv_icmp_ge (tgt := 87) hx hb d_Rank_documentOf_42 (by decide) (fun h42 => ?_) (fun h42 => ?_)
        · -- 42 t
          have h42 : ng ≤ i := (nI_leI (a := ng) (b := i) (by omega) (by omega)).mp h42
          refine lv_iconst (v := (-1)) hx hb d_Rank_documentOf_87 (by decide) ?_
          refine hret (-1) ((a, x, o), v) _ _ _ _ ?_ hW hS d_Rank_documentOf_88
          exact ⟨rfl, by rw [erd, show ng = i by omega, hs]⟩
        · -- 42 f
          have h42 : i < ng := Nat.lt_of_not_le fun q => h42 ((nI_leI (a := ng) (b := i) (by omega) (by omega)).mpr q)
          obtain ⟨c9, hc9, ec⟩ := hd.1 i (by omega)
          obtain ⟨wc, hwc8, hwc⟩ := (hw.2.2.1 c9 hc9).2.2.2.1
          have esb : sBd a c9 P = (decide (wc = wp) && pSm (fun i => a 4 (8 * c9 + i)) (fun i => a 4 (8 * P + i)) wc) := by unfold sBd; rw [hwc, hwp, nI_clamp (by omega), nI_clamp (by omega)]
          refine lv_aload_n hx hb d_Rank_documentOf_45 rfl (lv_at hl 0 rfl) ?_
          refine gf_Rank_15 X hW  d_Rank_documentOf_46 ?_
          refine gf_Rank_47 X hW  d_Rank_documentOf_49 ?_
          refine lv_iload_n hx hb d_Rank_documentOf_52 rfl (lv_at hl 2 rfl) ?_
          refine gc_iV (As := [.int (nI i)]) (b := ad 31) (rest := []) X cw_Rank_71 (C_Row_at l (u := (a, x, o)) (v := v) (x := nI i) (n := ng) (f := a 15) (gRow_31 np) hng (by omega) (fun i _ => rfl)) hW hS (gW_recv (ci := 3) (fs := gf3 ad 31) hK hW (by omega) (fun σ τ => ge_3 rfl σ τ) (r := (R_Row, F_Row, 2)) rfl) ⟨Nat.le_trans (Nat.le_of_ble_eq_true rfl) hR.1, Nat.le_trans (Nat.le_of_ble_eq_true rfl) hR.2⟩ rfl hl.1 rfl (Nat.le_of_ble_eq_true rfl) d_Rank_documentOf_53 ⟨Nat.zero_le _, Nat.zero_le _⟩ (fun r t H locs hp hW hS => ?_)
          obtain ⟨rfl, hr9⟩ := hp
          rw [at_in (by omega) (by omega), ec] at hr9
          subst hr9
          have hW : gW g A ad np (a, x, o) v H := hW
          refine lv_istore hx hb d_Rank_documentOf_56 hl (by decide) rfl (fun ls hl => ?_)
          have hl : lv_has ls 5 [(4, .int (nI c9)), (0, .ref (ad 34)), (2, .ref (ad (gp P + 1))), (3, .int (nI i))] := hl
          refine lv_aload_n hx hb d_Rank_documentOf_58 rfl (lv_at hl 1 rfl) ?_
          refine gf_Rank_9 X hW  d_Rank_documentOf_59 ?_
          refine gf_Rank_56 X hW  d_Rank_documentOf_62 ?_
          refine lv_iload hx hb d_Rank_documentOf_65 (lv_at hl 0 rfl) ?_
          refine gy_aP (i := c9) hx hb hK hW (by omega) hnp rfl d_Rank_documentOf_67 ?_
          refine gf_Rank_62 X hW (by unfold gp; omega) (gk_p0 c9) d_Rank_documentOf_68 ?_
          refine lv_aload_n hx hb d_Rank_documentOf_71 rfl (lv_at hl 2 rfl) ?_
          refine gc_iV (As := [.ref (ad (gp P + 1))]) (b := ad (gp c9 + 1)) (rest := []) X cw_Rank_75 (C_Row_sameAs l (u := (a, x, o)) (v := v) (f := fun i => a 4 (8 * c9 + i)) (f2 := fun i => a 4 (8 * P + i)) (gRow_b hc9) hwc hwc8 (fun i _ => rfl) (gRow_b hP) hwp hwp8 (fun i _ => rfl)) hW hS (gW_recv (ci := 3) (fs := gf3 ad (gp c9 + 1)) hK hW (by unfold gp; omega) (fun σ τ => ge_3 (gk_p1 c9) σ τ) (r := (R_Row, F_Row, 2)) rfl) ⟨Nat.le_trans (Nat.le_of_ble_eq_true rfl) hR.1, Nat.le_trans (Nat.le_of_ble_eq_true rfl) hR.2⟩ rfl hl.1 rfl (Nat.le_of_ble_eq_true rfl) d_Rank_documentOf_72 ⟨Nat.zero_le _, Nat.zero_le _⟩ (fun r t H locs hp hW hS => ?_)
          obtain ⟨rfl, rfl⟩ := hp
          have hW : gW g A ad np (a, x, o) v H := hW
          refine lv_if_eq (tgt := 81) hx hb d_Rank_documentOf_75 (by decide) (fun h75 => ?_) (fun h75 => ?_)
          · -- 75 t
            have h75 : (decide (wc = wp) && pSm (fun i => a 4 (8 * c9 + i)) (fun i => a 4 (8 * P + i)) wc) = false := bI_0 h75
            refine lv_iinc (v := nI (i + 1)) (k := 3) hx hb d_Rank_documentOf_81 hl rfl (nI_inc i) (by decide) rfl (fun ls hl => ?_)
            have hl : lv_has ls 5 [(3, .int (nI (i + 1))), (4, .int (nI c9)), (0, .ref (ad 34)), (2, .ref (ad (gp P + 1)))] := hl
            refine lv_goto (tgt := 31) hx hb d_Rank_documentOf_84 (by decide) ?_
            exact ih31 (i + 1) _ _ _ (by omega) (sDo_no hs (by rw [ec, nI_clamp (by omega), esb]; exact h75)) (by omega) (lv_sub hl [2, 3, 0] rfl) hW hS
          · -- 75 f
            have h75 : (decide (wc = wp) && pSm (fun i => a 4 (8 * c9 + i)) (fun i => a 4 (8 * P + i)) wc) = true := bI_n0 h75
            refine lv_iload hx hb d_Rank_documentOf_78 (lv_at hl 0 rfl) ?_
            refine hret (nI c9) ((a, x, o), v) _ _ _ _ ?_ hW hS d_Rank_documentOf_80
            have h9 := sDo_hit hs (by rw [ec, nI_clamp (by omega), esb]; exact h75) (by rw [ec]; exact nI_neg (by omega) (by decide)) (ng - (i + 1))
            rw [show i + 1 + (ng - (i + 1)) = ng by omega, ec] at h9
            exact ⟨rfl, by rw [erd, h9]⟩
    exact lp31 _ 0 _ _ _ (Nat.zero_le _) rfl (Nat.lt_succ_self _) (lv_sub hl [2, 1, 0] rfl) hW hS
  · -- 11 f
    have h11 : (pEq (a 15) w1 ng) = false := bI_0 h11
    refine lv_iconst (v := (-1)) hx hb d_Rank_documentOf_14 (by decide) ?_
    refine hret (-1) ((a, x, o), v) _ _ _ _ ?_ hW hS d_Rank_documentOf_15
    exact ⟨rfl, by unfold rDo; rw [hcn, if_pos h11]⟩
theorem C_Rank_documentOf (l : Launch) {g : gG} {A : Nat → Prop} {ad : Nat → Nat} {np : Nat} {a x : gA} {o : gL} {v : gS} {ng : Nat} {w1 : Int32} (hw : WFw np a) (hng : a 0 25 = nI ng) (hd : dst (a 15) ng np) : CtI l y_Rank_documentOf b_Rank_documentOf 5 .int 1 [.ref (ad 34), .int w1] g A ad np (a, x, o) v (fun r t => t = ((a, x, o), v) ∧ r = rDo a w1) := mkI (by decide) rfl (Nat.le_of_ble_eq_true rfl) (fun _ _ _ => rfl) (B_Rank_documentOf l hw hng hd)

set_option maxHeartbeats 400000 in
set_option maxRecDepth 20000 in
theorem B_Rank_isDocument (l : Launch) {g : gG} {A : Nat → Prop} {ad : Nat → Nat} {np : Nat} {a x : gA} {o : gL} {v : gS} {ng : Nat} {w1 : Int32} (hw : WFw np a) (hng : a 0 25 = nI ng) (hd : dst (a 15) ng np) : BdI l b_Rank_isDocument 2 R_Rank 2 [.ref (ad 34), .int w1] g A ad np (a, x, o) v (fun r t => t = ((a, x, o), v) ∧ r = bI (sIsD a w1)) := by
  intro p e R s m args below meth c Q ls X hW hS hR hl hret
  have hx := X.1.1
  have hb := X.1.2.1
  have hml := X.1.2.2.1
  have hown := X.1.2.2.2.1
  have hts := X.1.2.2.2.2
  have hK := X.2.1
  have hl : lv_has ls 2 [(0, .ref (ad 34)), (1, .int w1)] := hl
  have hnp := hw.1
  refine lv_iload_n hx hb d_Rank_isDocument_0 rfl (lv_at hl 1 rfl) ?_
  refine lv_iconst (v := (-1)) hx hb d_Rank_isDocument_1 (by decide) ?_
  refine lv_icmp_eq (tgt := 18) hx hb d_Rank_isDocument_2 (by decide) (fun h2 => ?_) (fun h2 => ?_)
  · -- 2 t
    refine lv_iconst (v := 0) hx hb d_Rank_isDocument_18 (by decide) ?_
    refine hret 0 ((a, x, o), v) _ _ _ _ ?_ hW hS d_Rank_isDocument_19
    first | exact ⟨rfl, by unfold sIsD; rw [h2]; rfl⟩ | exact ⟨rfl, by unfold sIsD; rw [decide_eq_false h11, Bool.and_false]; rfl⟩
  · -- 2 f
    refine lv_aload_n hx hb d_Rank_isDocument_5 rfl (lv_at hl 0 rfl) ?_
    refine lv_iload_n hx hb d_Rank_isDocument_6 rfl (lv_at hl 1 rfl) ?_
    refine gc_iV (As := [.int w1]) (b := ad 34) (rest := []) X cw_Rank_79 (C_Rank_documentOf l (a := a) (x := x) (o := o) (v := v) (w1 := w1) hw hng hd) hW hS (gW_recv (ci := 6) (fs := fun _ => gf6 ad) hK hW (by omega) (fun σ τ => ge_6 rfl σ τ) (r := (R_Rank, F_Rank, 8)) rfl) ⟨Nat.le_trans (Nat.le_of_ble_eq_true rfl) hR.1, Nat.le_trans (Nat.le_of_ble_eq_true rfl) hR.2⟩ rfl hl.1 rfl (Nat.le_of_ble_eq_true rfl) d_Rank_isDocument_7 ⟨Nat.zero_le _, Nat.zero_le _⟩ (fun r t H locs hp hW hS => ?_)
    obtain ⟨rfl, rfl⟩ := hp
    have hW : gW g A ad np (a, x, o) v H := hW
    refine lv_iload_n hx hb d_Rank_isDocument_10 rfl (lv_at hl 1 rfl) ?_
    refine lv_icmp_ne (tgt := 18) hx hb d_Rank_isDocument_11 (by decide) (fun h11 => ?_) (fun h11 => ?_)
    · -- 11 t
      refine lv_iconst (v := 0) hx hb d_Rank_isDocument_18 (by decide) ?_
      refine hret 0 ((a, x, o), v) _ _ _ _ ?_ hW hS d_Rank_isDocument_19
      first | exact ⟨rfl, by unfold sIsD; rw [h2]; rfl⟩ | exact ⟨rfl, by unfold sIsD; rw [decide_eq_false h11, Bool.and_false]; rfl⟩
    · -- 11 f
      refine lv_iconst (v := 1) hx hb d_Rank_isDocument_14 (by decide) ?_
      refine lv_goto (tgt := 19) hx hb d_Rank_isDocument_15 (by decide) ?_
      refine hret 1 ((a, x, o), v) _ _ _ _ ?_ hW hS d_Rank_isDocument_19
      refine ⟨rfl, ?_⟩
      unfold sIsD
      rw [decide_eq_true h11]
      rcases rDo_pg hng hd hnp w1 with q | ⟨q, hq, e⟩
      · exact absurd (h11.symm.trans q) h2
      · rw [decide_eq_true (show 0 ≤ w1 by rw [← h11, e]; exact nI_pos' (by omega))]; rfl
theorem C_Rank_isDocument (l : Launch) {g : gG} {A : Nat → Prop} {ad : Nat → Nat} {np : Nat} {a x : gA} {o : gL} {v : gS} {ng : Nat} {w1 : Int32} (hw : WFw np a) (hng : a 0 25 = nI ng) (hd : dst (a 15) ng np) : CtI l y_Rank_isDocument b_Rank_isDocument 2 .boolean 2 [.ref (ad 34), .int w1] g A ad np (a, x, o) v (fun r t => t = ((a, x, o), v) ∧ r = bI (sIsD a w1)) := mkI (by decide) rfl (Nat.le_of_ble_eq_true rfl) (fun r t h => h.2 ▸ bI_nar _) (B_Rank_isDocument l hw hng hd)

set_option maxHeartbeats 400000 in
set_option maxRecDepth 20000 in
theorem B_Rank_listDocuments (l : Launch) {g : gG} {A : Nat → Prop} {ad : Nat → Nat} {np : Nat} {a x : gA} {o : gL} {v : gS} {ng : Nat} (hw : WFw np a) (hng : a 0 25 = nI ng) (hd : dst (a 15) ng np) (hk0 : ∃ k, k ≤ 32 ∧ x 2 1 = nI k) : BdV l b_Rank_listDocuments 3 R_Rank 3 [.ref (ad 34)] g A ad np (a, x, o) v (fun t => ∃ x', t = ((a, x', o), v) ∧ (∀ r j, ¬ r = 3 → ¬ (r = 2 ∧ j = 1) → x' r j = x r j) ∧ DL a ng x') := by
  intro p e R s m args below meth c Q ls X hW hS hR hl hret
  have hx := X.1.1
  have hb := X.1.2.1
  have hml := X.1.2.2.1
  have hown := X.1.2.2.2.1
  have hts := X.1.2.2.2.2
  have hK := X.2.1
  have hl : lv_has ls 3 [(0, .ref (ad 34))] := hl
  have hnp := hw.1
  have hng32 := dst_le hd hnp
  have hcn : cn a 25 = ng := cn_of hng (by omega)
  obtain ⟨k0, hk32, ek0⟩ := hk0
  refine lv_aload_n hx hb d_Rank_listDocuments_0 rfl (lv_at hl 0 rfl) ?_
  refine gf_Rank_24 X hW  d_Rank_listDocuments_1 ?_
  refine lv_iconst (v := 0) hx hb d_Rank_listDocuments_4 (by decide) ?_
  refine gc_vV (As := [.int 0]) (b := ad 35) (rest := []) X cw_Rank_100 (C_Row_cutTo l (u := (a, x, o)) (v := v) (mm := 0) (n := k0) (gRow_35 np) ek0 (Nat.zero_le _) hk32) hW hS (gW_recv (ci := 3) (fs := gf3 ad 35) hK hW (by omega) (fun σ τ => ge_3 rfl σ τ) (r := (R_Row, F_Row, 2)) rfl) ⟨Nat.le_trans (Nat.le_of_ble_eq_true rfl) hR.1, Nat.le_trans (Nat.le_of_ble_eq_true rfl) hR.2⟩ rfl hl.1 rfl (Nat.le_of_ble_eq_true rfl) d_Rank_listDocuments_5 ⟨Nat.zero_le _, Nat.zero_le _⟩ (fun t H locs hp hW hS => ?_)
  subst hp
  have hW : gW g A ad np (a, gu x 2 1 (nI 0), o) v H := hW
  refine lv_iconst (v := 0) hx hb d_Rank_listDocuments_8 (by decide) ?_
  refine lv_istore_n hx hb d_Rank_listDocuments_9 rfl hl (by decide) rfl (fun ls hl => ?_)
  have hl : lv_has ls 3 [(1, .int 0), (0, .ref (ad 34))] := hl
  have lp10 : ∀ (fuel : Nat) (i : Nat) (x1 : gA) (ls : Array Slot) (H : Heap) (locs : List Loc), (i ≤ ng) → (∀ r j, ¬ r = 3 → ¬ (r = 2 ∧ j = 1) → x1 r j = x r j) → (x1 2 1 = nI (dcN a i)) → (∀ i', i' < i → sIsD a (a 15 i') = true → x1 3 (dcN a i') = a 15 i') → ng - i < fuel → lv_has ls 3 [(0, .ref (ad 34)), (1, .int (nI i))] → gW g A ad np (a, x1, o) v H → va_S A s.heap H locs → W p l e R s m args below meth c H locs 0 0 Q (F0 m 10 ls []) := by
    intro fuel
    induction fuel with
    | zero => intro i x1 ls H locs _ _ _ _ hfu; exact absurd hfu (Nat.not_lt_zero _)
    | succ fuel ih10 =>
      intro i x1 ls H locs hi hxk hsz hit hfu hl hW hS
      refine lv_iload_n hx hb d_Rank_listDocuments_10 rfl (lv_at hl 1 rfl) ?_
      refine lv_aload_n hx hb d_Rank_listDocuments_11 rfl (lv_at hl 0 rfl) ?_
      refine gf_Rank_15 X hW  d_Rank_listDocuments_12 ?_
      refine gf_Rank_47 X hW  d_Rank_listDocuments_15 ?_
      refine gf_Rank_67 (z := nI ng) X hW (by omega) rfl (gv_0_0_25 _) rfl hng d_Rank_listDocuments_18 ?_
      refine lv_icmp_ge (tgt := 59) hx hb d_Rank_listDocuments_21 (by decide) (fun h21 => ?_) (fun h21 => ?_)
      · -- 21 t
        have h21 : ng ≤ i := (nI_leI (a := ng) (b := i) (by omega) (by omega)).mp h21
        refine hret ((a, x1, o), v) _ _ _ _ ?_ hW hS d_Rank_listDocuments_59
        obtain rfl : i = ng := by omega
        exact ⟨x1, rfl, hxk, hsz, hit⟩
      · -- 21 f
        have h21 : i < ng := Nat.lt_of_not_le fun q => h21 ((nI_leI (a := ng) (b := i) (by omega) (by omega)).mpr q)
        obtain ⟨e9, he9, ee⟩ := hd.1 i (by omega)
        have hdl9 := dcN_le a i
        refine lv_aload_n hx hb d_Rank_listDocuments_24 rfl (lv_at hl 0 rfl) ?_
        refine gf_Rank_15 X hW  d_Rank_listDocuments_25 ?_
        refine gf_Rank_47 X hW  d_Rank_listDocuments_28 ?_
        refine lv_iload_n hx hb d_Rank_listDocuments_31 rfl (lv_at hl 1 rfl) ?_
        refine gc_iV (As := [.int (nI i)]) (b := ad 31) (rest := []) X cw_Rank_71 (C_Row_at l (u := (a, x1, o)) (v := v) (x := nI i) (n := ng) (f := a 15) (gRow_31 np) hng (by omega) (fun i _ => rfl)) hW hS (gW_recv (ci := 3) (fs := gf3 ad 31) hK hW (by omega) (fun σ τ => ge_3 rfl σ τ) (r := (R_Row, F_Row, 2)) rfl) ⟨Nat.le_trans (Nat.le_of_ble_eq_true rfl) hR.1, Nat.le_trans (Nat.le_of_ble_eq_true rfl) hR.2⟩ rfl hl.1 rfl (Nat.le_of_ble_eq_true rfl) d_Rank_listDocuments_32 ⟨Nat.zero_le _, Nat.zero_le _⟩ (fun r t H locs hp hW hS => ?_)
        obtain ⟨rfl, hr9⟩ := hp
        rw [at_in (by omega) (by omega), ee] at hr9
        subst hr9
        have hW : gW g A ad np (a, x1, o) v H := hW
        refine lv_istore_n hx hb d_Rank_listDocuments_35 rfl hl (by decide) rfl (fun ls hl => ?_)
        have hl : lv_has ls 3 [(2, .int (nI e9)), (0, .ref (ad 34)), (1, .int (nI i))] := hl
        refine lv_aload_n hx hb d_Rank_listDocuments_36 rfl (lv_at hl 1 rfl) ?_
        refine lv_iload_n hx hb d_Rank_listDocuments_37 rfl (lv_at hl 0 rfl) ?_
        refine gc_iV (As := [.int (nI e9)]) (b := ad 34) (rest := []) X cw_Rank_103 (C_Rank_isDocument l (a := a) (x := x1) (o := o) (v := v) (w1 := nI e9) hw hng hd) hW hS (gW_recv (ci := 6) (fs := fun _ => gf6 ad) hK hW (by omega) (fun σ τ => ge_6 rfl σ τ) (r := (R_Rank, F_Rank, 8)) rfl) ⟨Nat.le_trans (Nat.le_of_ble_eq_true rfl) hR.1, Nat.le_trans (Nat.le_of_ble_eq_true rfl) hR.2⟩ rfl hl.1 rfl (Nat.le_of_ble_eq_true rfl) d_Rank_listDocuments_38 ⟨Nat.zero_le _, Nat.zero_le _⟩ (fun r t H locs hp hW hS => ?_)
        obtain ⟨rfl, rfl⟩ := hp
        have hW : gW g A ad np (a, x1, o) v H := hW
        refine lv_if_eq (tgt := 53) hx hb d_Rank_listDocuments_41 (by decide) (fun h41 => ?_) (fun h41 => ?_)
        · -- 41 t
          have h41 : (sIsD a (nI e9)) = false := bI_0 h41
          refine lv_iinc (v := nI (i + 1)) (k := 2) hx hb d_Rank_listDocuments_53 hl rfl (nI_inc i) (by decide) rfl (fun ls hl => ?_)
          have hl : lv_has ls 3 [(1, .int (nI (i + 1))), (2, .int (nI e9)), (0, .ref (ad 34))] := hl
          refine lv_goto (tgt := 10) hx hb d_Rank_listDocuments_56 (by decide) ?_
          have hD9 : sIsD a (a 15 i) = false := by rw [ee]; exact h41
          exact ih10 (i + 1) x1 _ _ _ (by omega) hxk (by rw [dcN_n hD9]; exact hsz) (fun i' hi' hs' => by by_cases c : i' = i; subst c; rw [hD9] at hs'; cases hs'; exact hit i' (by omega) hs') (by omega) (lv_sub hl [2, 0] rfl) hW hS
        · -- 41 f
          have h41 : (sIsD a (nI e9)) = true := bI_n0 h41
          refine lv_aload_n hx hb d_Rank_listDocuments_44 rfl (lv_at hl 1 rfl) ?_
          refine gf_Rank_24 X hW  d_Rank_listDocuments_45 ?_
          refine lv_iload_n hx hb d_Rank_listDocuments_48 rfl (lv_at hl 0 rfl) ?_
          refine gc_iV (As := [.int (nI e9)]) (b := ad 35) (rest := []) X cw_Rank_106 (C_Row_add l (u := (a, x1, o)) (v := v) (x := nI e9) (n := dcN a i) (gRow_35 np) hsz (by omega)) hW hS (gW_recv (ci := 3) (fs := gf3 ad 35) hK hW (by omega) (fun σ τ => ge_3 rfl σ τ) (r := (R_Row, F_Row, 2)) rfl) ⟨Nat.le_trans (Nat.le_of_ble_eq_true rfl) hR.1, Nat.le_trans (Nat.le_of_ble_eq_true rfl) hR.2⟩ rfl hl.1 rfl (Nat.le_of_ble_eq_true rfl) d_Rank_listDocuments_49 ⟨Nat.zero_le _, Nat.zero_le _⟩ (fun r t H locs hp hW hS => ?_)
          obtain ⟨rfl, rfl⟩ := hp.1 (by omega)
          have hW : gW g A ad np (a, gu (gu x1 3 (dcN a i) (nI e9)) 2 1 (nI (dcN a i + 1)), o) v H := hW
          refine lv_pop hx hb d_Rank_listDocuments_52 rfl ?_
          refine lv_iinc (v := nI (i + 1)) (k := 2) hx hb d_Rank_listDocuments_53 hl rfl (nI_inc i) (by decide) rfl (fun ls hl => ?_)
          have hl : lv_has ls 3 [(1, .int (nI (i + 1))), (2, .int (nI e9)), (0, .ref (ad 34))] := hl
          refine lv_goto (tgt := 10) hx hb d_Rank_listDocuments_56 (by decide) ?_
          have hD9 : sIsD a (a 15 i) = true := by rw [ee]; exact h41
          exact ih10 (i + 1) (gu (gu x1 3 (dcN a i) (nI e9)) 2 1 (nI (dcN a i + 1))) _ _ _ (by omega) (fun r j q1 q2 => (gu_off q2).trans ((gu_off (fun z => q1 z.1)).trans (hxk r j q1 q2))) (by rw [dcN_y hD9]; exact gu_hit _ _ _ _) (fun i' hi' hs' => by rw [gu_off (by omega)]; by_cases c : i' = i; subst c; rw [gu_hit, ee]; rw [gu_off (fun z => by have := dcN_lt hs' (show i' < i by omega); omega)]; exact hit i' (by omega) hs') (by omega) (lv_sub hl [2, 0] rfl) hW hS
  exact lp10 _ 0 (gu x 2 1 (nI 0)) _ _ _ (Nat.zero_le _) (fun r j q1 q2 => gu_off q2) (gu_hit _ _ _ _) (fun q h => absurd h (Nat.not_lt_zero _)) (Nat.lt_succ_self _) (lv_sub hl [1, 0] rfl) hW hS
theorem C_Rank_listDocuments (l : Launch) {g : gG} {A : Nat → Prop} {ad : Nat → Nat} {np : Nat} {a x : gA} {o : gL} {v : gS} {ng : Nat} (hw : WFw np a) (hng : a 0 25 = nI ng) (hd : dst (a 15) ng np) (hk0 : ∃ k, k ≤ 32 ∧ x 2 1 = nI k) : CtV l y_Rank_listDocuments b_Rank_listDocuments 3 3 [.ref (ad 34)] g A ad np (a, x, o) v (fun t => ∃ x', t = ((a, x', o), v) ∧ (∀ r j, ¬ r = 3 → ¬ (r = 2 ∧ j = 1) → x' r j = x r j) ∧ DL a ng x') := mkV (by decide) rfl (Nat.le_of_ble_eq_true rfl) (B_Rank_listDocuments l hw hng hd hk0)

set_option maxHeartbeats 400000 in
set_option maxRecDepth 20000 in
theorem B_Rank_followLinks (l : Launch) {g : gG} {A : Nat → Prop} {ad : Nat → Nat} {np : Nat} {a x : gA} {o : gL} {v : gS} {ng hp e1 : Nat} (hw : WFw np a) (hng : a 0 25 = nI ng) (hd : dst (a 15) ng np) (hwx : WX np a x) (hhp : a 0 15 = nI hp) (hp4 : hp ≤ 4) (he : e1 < np) : BdV l b_Rank_followLinks 5 R_Rank 4 [.ref (ad 34), .int (nI e1)] g A ad np (a, x, o) v (fun t => ∃ x', t = ((a, x', o), v) ∧ LE a hp x' e1 ∧ ∀ r j, ¬ (r = 5 ∧ j = e1) → ¬ (r = 4 ∧ 5 * e1 ≤ j ∧ j < 5 * e1 + 5) → x' r j = x r j) := by
  intro p e R s m args below meth c Q ls X hW hS hR hl hret
  have hx := X.1.1
  have hb := X.1.2.1
  have hml := X.1.2.2.1
  have hown := X.1.2.2.2.1
  have hts := X.1.2.2.2.2
  have hK := X.2.1
  have hl : lv_has ls 5 [(0, .ref (ad 34)), (1, .int (nI e1))] := hl
  have hnp := hw.1
  have hng32 := dst_le hd hnp
  have hcn : cn a 25 = ng := cn_of hng (by omega)
  obtain ⟨lk, hlk5, hlk, hll⟩ := (hw.2.2.1 e1 he).2.2.2.2
  have elk : lkN a e1 = lk := by unfold lkN; rw [hlk, nI_clamp (by omega)]
  refine lv_aload_n hx hb d_Rank_followLinks_0 rfl (lv_at hl 0 rfl) ?_
  refine gf_Rank_9 X hW  d_Rank_followLinks_1 ?_
  refine gf_Rank_56 X hW  d_Rank_followLinks_4 ?_
  refine lv_iload_n hx hb d_Rank_followLinks_7 rfl (lv_at hl 1 rfl) ?_
  refine gy_aP (i := e1) hx hb hK hW (by omega) hnp rfl d_Rank_followLinks_8 ?_
  refine gf_Rank_109 X hW (by unfold gp; omega) (gk_p0 e1) d_Rank_followLinks_9 ?_
  refine lv_astore_n hx hb d_Rank_followLinks_12 rfl hl (by decide) rfl (fun ls hl => ?_)
  have hl : lv_has ls 5 [(2, .ref (ad (gp e1 + 3))), (0, .ref (ad 34)), (1, .int (nI e1))] := hl
  refine lv_aload_n hx hb d_Rank_followLinks_13 rfl (lv_at hl 1 rfl) ?_
  refine gf_Rank_33 X hW  d_Rank_followLinks_14 ?_
  refine lv_iload_n hx hb d_Rank_followLinks_17 rfl (lv_at hl 2 rfl) ?_
  refine lv_iconst (v := 0) hx hb d_Rank_followLinks_18 (by decide) ?_
  refine gy_is (z := 0) (q := (1, 5, e1)) hx hb hK hW hS (by omega) rfl (show vp_in _ 32 from vp_in_nI (by omega) (by decide)) (gv_1_5 (by omega)) ((gi_1_5 _).trans (by rw [nI_clamp (by omega)])) d_Rank_followLinks_19 (fun H locs hW hS => ?_)
  have hW : gW g A ad np (a, gu x 5 e1 0, o) v H := hW
  refine lv_iconst (v := 0) hx hb d_Rank_followLinks_20 (by decide) ?_
  refine lv_istore_n hx hb d_Rank_followLinks_21 rfl hl (by decide) rfl (fun ls hl => ?_)
  have hl : lv_has ls 5 [(3, .int 0), (2, .ref (ad (gp e1 + 3))), (0, .ref (ad 34)), (1, .int (nI e1))] := hl
  have lp22 : ∀ (fuel : Nat) (k : Nat) (x1 : gA) (ls : Array Slot) (H : Heap) (locs : List Loc), (k ≤ lk) → (∀ r j, ¬ (r = 5 ∧ j = e1) → ¬ (r = 4 ∧ 5 * e1 ≤ j ∧ j < 5 * e1 + 5) → x1 r j = x r j) → (∀ k', k' < k → x1 4 (5 * e1 + k') = ld a hp e1 k') → (x1 5 e1 = nI (usN a hp e1 k)) → lk - k < fuel → lv_has ls 5 [(0, .ref (ad 34)), (1, .int (nI e1)), (2, .ref (ad (gp e1 + 3))), (3, .int (nI k))] → gW g A ad np (a, x1, o) v H → va_S A s.heap H locs → W p l e R s m args below meth c H locs 0 0 Q (F0 m 22 ls []) := by
    intro fuel
    induction fuel with
    | zero => intro k x1 ls H locs _ _ _ _ hfu; exact absurd hfu (Nat.not_lt_zero _)
    | succ fuel ih22 =>
      intro k x1 ls H locs hk hxk hl1 hu hfu hl hW hS
      refine lv_iload_n hx hb d_Rank_followLinks_22 rfl (lv_at hl 3 rfl) ?_
      refine lv_aload_n hx hb d_Rank_followLinks_23 rfl (lv_at hl 2 rfl) ?_
      refine gf_Rank_67 (z := nI lk) X hW (by unfold gp; omega) (gk_p3 e1) (gv_0_7 (by omega)) (gi_0_7 _) hlk d_Rank_followLinks_24 ?_
      refine lv_icmp_ge (tgt := 87) hx hb d_Rank_followLinks_27 (by decide) (fun h27 => ?_) (fun h27 => ?_)
      · -- 27 t
        have h27 : lk ≤ k := (nI_leI (a := lk) (b := k) (by omega) (by omega)).mp h27
        refine hret ((a, x1, o), v) _ _ _ _ ?_ hW hS d_Rank_followLinks_87
        obtain rfl : k = lk := by omega
        exact ⟨x1, rfl, ⟨by rw [elk]; exact hl1, by rw [elk]; exact hu⟩, hxk⟩
      · -- 27 f
        have h27 : k < lk := Nat.lt_of_not_le fun q => h27 ((nI_leI (a := lk) (b := k) (by omega) (by omega)).mpr q)
        obtain ⟨q7, hq7, e7⟩ := hll k (by omega)
        have hu9 := usN_le (a := a) (hp := hp) (e := e1) k
        have hwx1 : WX np a x1 := WX_x (fun r j h => hxk r j (by omega) (by omega)) (by rw [hxk 2 1 (by omega) (by omega)]; exact hwx.2.2) hwx
        refine lv_aload_n hx hb d_Rank_followLinks_30 rfl (lv_at hl 0 rfl) ?_
        refine gf_Rank_15 X hW  d_Rank_followLinks_31 ?_
        refine lv_aload_n hx hb d_Rank_followLinks_34 rfl (lv_at hl 2 rfl) ?_
        refine lv_iload_n hx hb d_Rank_followLinks_35 rfl (lv_at hl 3 rfl) ?_
        refine gc_iV (As := [.int (nI k)]) (b := ad (gp e1 + 3)) (rest := [.ref (ad 24)]) X cw_Rank_71 (C_Row_at l (u := (a, x1, o)) (v := v) (x := nI k) (n := lk) (f := fun i => a 6 (5 * e1 + i)) (gRow_l he) hlk hlk5 (fun i _ => rfl)) hW hS (gW_recv (ci := 3) (fs := gf3 ad (gp e1 + 3)) hK hW (by unfold gp; omega) (fun σ τ => ge_3 (gk_p3 e1) σ τ) (r := (R_Row, F_Row, 2)) rfl) ⟨Nat.le_trans (Nat.le_of_ble_eq_true rfl) hR.1, Nat.le_trans (Nat.le_of_ble_eq_true rfl) hR.2⟩ rfl hl.1 rfl (Nat.le_of_ble_eq_true rfl) d_Rank_followLinks_36 ⟨Nat.zero_le _, Nat.zero_le _⟩ (fun r t H locs hp hW hS => ?_)
        obtain ⟨rfl, hr9⟩ := hp
        have hr9 : r = nI q7 := (hr9.trans (at_in (f := fun i => a 6 (5 * e1 + i)) (by omega) (by omega))).trans e7
        subst hr9
        have hW : gW g A ad np (a, x1, o) v H := hW
        refine lv_iconst (v := 0) hx hb d_Rank_followLinks_39 (by decide) ?_
        refine gc_iV (As := [.int (nI q7), .int 0]) (b := ad 24) (rest := []) X cw_Rank_112 (C_Gat_chase0 l (a := a) (x := x1) (o := o) (v := v) (P := q7) hw hwx1 hhp hp4 hq7) hW hS (gW_recv (ci := 5) (fs := gf5 ad) hK hW (by omega) (fun σ τ => ge_5 rfl σ τ) (r := (R_Gat, F_Gat, 17)) rfl) ⟨Nat.le_trans (Nat.le_of_ble_eq_true rfl) hR.1, Nat.le_trans (Nat.le_of_ble_eq_true rfl) hR.2⟩ rfl hl.1 rfl (Nat.le_of_ble_eq_true rfl) d_Rank_followLinks_40 ⟨Nat.zero_le _, Nat.zero_le _⟩ (fun gv9 t H locs hp hW hS => ?_)
        obtain ⟨rfl, hg9⟩ := hp
        have hldk : ld a hp e1 k = rDo a gv9 := by unfold ld; rw [e7, nI_clamp (by omega), hg9]
        have hW : gW g A ad np (a, x1, o) v H := hW
        refine lv_istore hx hb d_Rank_followLinks_43 hl (by decide) rfl (fun ls hl => ?_)
        have hl : lv_has ls 5 [(4, .int gv9), (0, .ref (ad 34)), (1, .int (nI e1)), (2, .ref (ad (gp e1 + 3))), (3, .int (nI k))] := hl
        refine lv_aload_n hx hb d_Rank_followLinks_45 rfl (lv_at hl 1 rfl) ?_
        refine gf_Rank_30 X hW  d_Rank_followLinks_46 ?_
        refine lv_iload_n hx hb d_Rank_followLinks_49 rfl (lv_at hl 2 rfl) ?_
        refine gy_aL (i := e1) hx hb hK hW (by omega) rfl d_Rank_followLinks_50 ?_
        refine lv_iload_n hx hb d_Rank_followLinks_51 rfl (lv_at hl 4 rfl) ?_
        refine lv_aload_n hx hb d_Rank_followLinks_52 rfl (lv_at hl 1 rfl) ?_
        refine lv_iload hx hb d_Rank_followLinks_53 (lv_at hl 0 rfl) ?_
        refine gc_iV (As := [.int gv9]) (b := ad 34) (rest := [.int (nI k), .ref (ad (38 + e1))]) X cw_Rank_79 (C_Rank_documentOf l (a := a) (x := x1) (o := o) (v := v) (w1 := gv9) hw hng hd) hW hS (gW_recv (ci := 6) (fs := fun _ => gf6 ad) hK hW (by omega) (fun σ τ => ge_6 rfl σ τ) (r := (R_Rank, F_Rank, 8)) rfl) ⟨Nat.le_trans (Nat.le_of_ble_eq_true rfl) hR.1, Nat.le_trans (Nat.le_of_ble_eq_true rfl) hR.2⟩ rfl hl.1 rfl (Nat.le_of_ble_eq_true rfl) d_Rank_followLinks_55 ⟨Nat.zero_le _, Nat.zero_le _⟩ (fun r t H locs hp hW hS => ?_)
        obtain ⟨rfl, hr9⟩ := hp
        rw [← hldk] at hr9
        subst hr9
        have hW : gW g A ad np (a, x1, o) v H := hW
        refine gy_is (z := ld a hp e1 k) (q := (1, 4, 5 * e1 + k)) hx hb hK hW hS (by omega) (gk_l (by omega)).1 (by rw [(gk_l (by omega)).2]; exact vp_in_nI (by omega) (by decide)) (gv_1_4 (by omega) (by omega)) ((gi_1_4 _ (by omega)).trans (by rw [nI_clamp (by omega)])) d_Rank_followLinks_58 (fun H locs hW hS => ?_)
        have hW : gW g A ad np (a, gu x1 4 (5 * e1 + k) (ld a hp e1 k), o) v H := hW
        refine lv_aload_n hx hb d_Rank_followLinks_59 rfl (lv_at hl 1 rfl) ?_
        refine gf_Rank_30 X hW  d_Rank_followLinks_60 ?_
        refine lv_iload_n hx hb d_Rank_followLinks_63 rfl (lv_at hl 2 rfl) ?_
        refine gy_aL (i := e1) hx hb hK hW (by omega) rfl d_Rank_followLinks_64 ?_
        refine lv_iload_n hx hb d_Rank_followLinks_65 rfl (lv_at hl 4 rfl) ?_
        refine gy_ia (z := ld a hp e1 k) (q := (1, 4, 5 * e1 + k)) hx hb hK hW (by omega) (gk_l (by omega)).1 (by rw [(gk_l (by omega)).2]; exact vp_in_nI (by omega) (by decide)) (gv_1_4 (by omega) (by omega)) ((gi_1_4 _ (by omega)).trans (by rw [nI_clamp (by omega)])) (show gu x1 4 (5 * e1 + k) (ld a hp e1 k) 4 (5 * e1 + k) = _ from gu_hit _ _ _ _) d_Rank_followLinks_66 ?_
        refine lv_iconst (v := (-1)) hx hb d_Rank_followLinks_67 (by decide) ?_
        refine lv_icmp_eq (tgt := 81) hx hb d_Rank_followLinks_68 (by decide) (fun h68 => ?_) (fun h68 => ?_)
        · -- 68 t
          refine lv_iinc (v := nI (k + 1)) (k := 4) hx hb d_Rank_followLinks_81 hl rfl (nI_inc k) (by decide) rfl (fun ls hl => ?_)
          have hl : lv_has ls 5 [(3, .int (nI (k + 1))), (4, .int gv9), (0, .ref (ad 34)), (1, .int (nI e1)), (2, .ref (ad (gp e1 + 3)))] := hl
          refine lv_goto (tgt := 22) hx hb d_Rank_followLinks_84 (by decide) ?_
          exact ih22 (k + 1) (gu x1 4 (5 * e1 + k) (ld a hp e1 k)) _ _ _ (by omega) (fun r j q1 q2 => (gu_off (fun z => q2 ⟨z.1, by omega, by omega⟩)).trans (hxk r j q1 q2)) (fun k' hk' => by by_cases c : k' = k; subst c; exact gu_hit _ _ _ _; rw [gu_off (fun z => by omega)]; exact hl1 k' (by omega)) (by rw [gu_off (by omega), hu]; exact congrArg nI (if_pos h68).symm) (by omega) (lv_sub hl [2, 3, 4, 0] rfl) hW hS
        · -- 68 f
          refine lv_aload_n hx hb d_Rank_followLinks_71 rfl (lv_at hl 1 rfl) ?_
          refine gf_Rank_33 X hW  d_Rank_followLinks_72 ?_
          refine lv_iload_n hx hb d_Rank_followLinks_75 rfl (lv_at hl 2 rfl) ?_
          refine lv_dup2_11 hx hb d_Rank_followLinks_76 rfl rfl ?_
          refine gy_ia (z := nI (usN a hp e1 k)) (q := (1, 5, e1)) hx hb hK hW (by omega) rfl (show vp_in _ 32 from vp_in_nI (by omega) (by decide)) (gv_1_5 (by omega)) ((gi_1_5 _).trans (by rw [nI_clamp (by omega)])) hu d_Rank_followLinks_77 ?_
          refine lv_iconst (v := 1) hx hb d_Rank_followLinks_78 (by decide) ?_
          refine lv_iadd hx hb d_Rank_followLinks_79 ?_
          rw [show (nI (usN a hp e1 k)) + 1 = nI (usN a hp e1 k + 1) from nI_1 _]
          refine gy_is (z := nI (usN a hp e1 k + 1)) (q := (1, 5, e1)) hx hb hK hW hS (by omega) rfl (show vp_in _ 32 from vp_in_nI (by omega) (by decide)) (gv_1_5 (by omega)) ((gi_1_5 _).trans (by rw [nI_clamp (by omega)])) d_Rank_followLinks_80 (fun H locs hW hS => ?_)
          have hW : gW g A ad np (a, gu (gu x1 4 (5 * e1 + k) (ld a hp e1 k)) 5 e1 (nI (usN a hp e1 k + 1)), o) v H := hW
          refine lv_iinc (v := nI (k + 1)) (k := 4) hx hb d_Rank_followLinks_81 hl rfl (nI_inc k) (by decide) rfl (fun ls hl => ?_)
          have hl : lv_has ls 5 [(3, .int (nI (k + 1))), (4, .int gv9), (0, .ref (ad 34)), (1, .int (nI e1)), (2, .ref (ad (gp e1 + 3)))] := hl
          refine lv_goto (tgt := 22) hx hb d_Rank_followLinks_84 (by decide) ?_
          exact ih22 (k + 1) (gu (gu x1 4 (5 * e1 + k) (ld a hp e1 k)) 5 e1 (nI (usN a hp e1 k + 1))) _ _ _ (by omega) (fun r j q1 q2 => (gu_off q1).trans ((gu_off (fun z => q2 ⟨z.1, by omega, by omega⟩)).trans (hxk r j q1 q2))) (fun k' hk' => by rw [gu_off (by omega)]; by_cases c : k' = k; subst c; exact gu_hit _ _ _ _; rw [gu_off (fun z => by omega)]; exact hl1 k' (by omega)) (by rw [gu_hit]; exact congrArg nI (if_neg h68).symm) (by omega) (lv_sub hl [2, 3, 4, 0] rfl) hW hS
  exact lp22 _ 0 (gu x 5 e1 0) _ _ _ (Nat.zero_le _) (fun r j q1 q2 => gu_off q1) (fun q h => absurd h (Nat.not_lt_zero _)) (gu_hit _ _ _ _) (Nat.lt_succ_self _) (lv_sub hl [2, 3, 1, 0] rfl) hW hS
theorem C_Rank_followLinks (l : Launch) {g : gG} {A : Nat → Prop} {ad : Nat → Nat} {np : Nat} {a x : gA} {o : gL} {v : gS} {ng hp e1 : Nat} (hw : WFw np a) (hng : a 0 25 = nI ng) (hd : dst (a 15) ng np) (hwx : WX np a x) (hhp : a 0 15 = nI hp) (hp4 : hp ≤ 4) (he : e1 < np) : CtV l y_Rank_followLinks b_Rank_followLinks 5 4 [.ref (ad 34), .int (nI e1)] g A ad np (a, x, o) v (fun t => ∃ x', t = ((a, x', o), v) ∧ LE a hp x' e1 ∧ ∀ r j, ¬ (r = 5 ∧ j = e1) → ¬ (r = 4 ∧ 5 * e1 ≤ j ∧ j < 5 * e1 + 5) → x' r j = x r j) := mkV (by decide) rfl (Nat.le_of_ble_eq_true rfl) (B_Rank_followLinks l hw hng hd hwx hhp hp4 he)

set_option maxHeartbeats 400000 in
set_option maxRecDepth 20000 in
theorem B_Rank_passOn (l : Launch) {g : gG} {A : Nat → Prop} {ad : Nat → Nat} {np : Nat} {a x : gA} {o : gL} {v : gS} {ng hp e1 lk : Nat} (hw : WFw np a) (hng : a 0 25 = nI ng) (hd : dst (a 15) ng np) (he : e1 < np) (hlk : a 7 e1 = nI lk) (hlk5 : lk ≤ 5) (hle : ∀ k, k < lk → x 4 (5 * e1 + k) = ld a hp e1 k) (hus : x 5 e1 = nI (usN a hp e1 lk)) : BdV l b_Rank_passOn 6 R_Rank 0 [.ref (ad 34), .int (nI e1)] g A ad np (a, x, o) v (fun t => ∃ o', t = ((a, x, o'), v) ∧ o' 0 = o 0 ∧ o' 2 = o 2 ∧ ∀ d, d < np → o' 1 d = o 1 d + (nI (hrN a hp e1 (nI d) lk)).toInt64 * (o 0 e1 / (nI (usN a hp e1 lk)).toInt64)) := by
  intro p e R s m args below meth c Q ls X hW hS hR hl hret
  have hx := X.1.1
  have hb := X.1.2.1
  have hml := X.1.2.2.1
  have hown := X.1.2.2.2.1
  have hts := X.1.2.2.2.2
  have hK := X.2.1
  have hl : lv_has ls 6 [(0, .ref (ad 34)), (1, .int (nI e1))] := hl
  have hnp := hw.1
  have hul := usN_le (a := a) (hp := hp) (e := e1) lk
  refine lv_aload_n hx hb d_Rank_passOn_0 rfl (lv_at hl 0 rfl) ?_
  refine gf_Rank_33 X hW  d_Rank_passOn_1 ?_
  refine lv_iload_n hx hb d_Rank_passOn_4 rfl (lv_at hl 1 rfl) ?_
  refine gy_ia (z := nI (usN a hp e1 lk)) (q := (1, 5, e1)) hx hb hK hW (by omega) rfl (show vp_in _ 32 from vp_in_nI (by omega) (by decide)) (gv_1_5 (by omega)) ((gi_1_5 _).trans (by rw [nI_clamp (by omega)])) hus d_Rank_passOn_5 ?_
  refine lv_if_ne (tgt := 10) hx hb d_Rank_passOn_6 (by decide) (fun h6 => ?_) (fun h6 => ?_)
  · -- 6 t
    have h6 : ¬ (usN a hp e1 lk) = 0 := fun q => h6 ((nI_eq (a := (usN a hp e1 lk)) (b := 0) (by omega) (by omega)).mpr q)
    refine lv_aload_n hx hb d_Rank_passOn_10 rfl (lv_at hl 0 rfl) ?_
    refine gf_Rank_37 X hW  d_Rank_passOn_11 ?_
    refine lv_iload_n hx hb d_Rank_passOn_14 rfl (lv_at hl 1 rfl) ?_
    refine gy_la (w := o 0 e1) (k := 0) hx hb hK hW (by decide) (vp_in_nI (by omega) (by decide)) (by rw [nI_clamp (by omega)]) d_Rank_passOn_15 ?_
    refine lv_aload_n hx hb d_Rank_passOn_16 rfl (lv_at hl 0 rfl) ?_
    refine gf_Rank_33 X hW  d_Rank_passOn_17 ?_
    refine lv_iload_n hx hb d_Rank_passOn_20 rfl (lv_at hl 1 rfl) ?_
    refine gy_ia (z := nI (usN a hp e1 lk)) (q := (1, 5, e1)) hx hb hK hW (by omega) rfl (show vp_in _ 32 from vp_in_nI (by omega) (by decide)) (gv_1_5 (by omega)) ((gi_1_5 _).trans (by rw [nI_clamp (by omega)])) hus d_Rank_passOn_21 ?_
    refine lv_i2l hx hb d_Rank_passOn_22 rfl ?_
    refine lv_ldiv hx hb d_Rank_passOn_23 (i64_nz (by omega) (by omega)) ?_
    refine lv_lstore_n hx hb d_Rank_passOn_24 rfl hl (by decide) rfl (fun ls hl => ?_)
    have hl : lv_has ls 6 [(2, .long ((o 0 e1) / ((nI (usN a hp e1 lk)).toInt64))), (0, .ref (ad 34)), (1, .int (nI e1))] := hl
    refine lv_iconst (v := 0) hx hb d_Rank_passOn_25 (by decide) ?_
    refine lv_istore hx hb d_Rank_passOn_26 hl (by decide) rfl (fun ls hl => ?_)
    have hl : lv_has ls 6 [(4, .int 0), (2, .long ((o 0 e1) / ((nI (usN a hp e1 lk)).toInt64))), (0, .ref (ad 34)), (1, .int (nI e1))] := hl
    have lp28 : ∀ (fuel : Nat) (k : Nat) (o1 : gL) (ls : Array Slot) (H : Heap) (locs : List Loc), (k ≤ lk) → (o1 0 = o 0) → (o1 2 = o 2) → (∀ d, d < np → o1 1 d = o 1 d + (nI (hrN a hp e1 (nI d) k)).toInt64 * (o 0 e1 / (nI (usN a hp e1 lk)).toInt64)) → lk - k < fuel → lv_has ls 6 [(0, .ref (ad 34)), (1, .int (nI e1)), (2, .long (o 0 e1 / (nI (usN a hp e1 lk)).toInt64)), (4, .int (nI k))] → gW g A ad np (a, x, o1) v H → va_S A s.heap H locs → W p l e R s m args below meth c H locs 0 0 Q (F0 m 28 ls []) := by
      intro fuel
      induction fuel with
      | zero => intro k o1 ls H locs _ _ _ _ hfu; exact absurd hfu (Nat.not_lt_zero _)
      | succ fuel ih28 =>
        intro k o1 ls H locs hk h0 h2 hs hfu hl hW hS
        refine lv_iload hx hb d_Rank_passOn_28 (lv_at hl 3 rfl) ?_
        refine lv_aload_n hx hb d_Rank_passOn_30 rfl (lv_at hl 0 rfl) ?_
        refine gf_Rank_9 X hW  d_Rank_passOn_31 ?_
        refine gf_Rank_56 X hW  d_Rank_passOn_34 ?_
        refine lv_iload_n hx hb d_Rank_passOn_37 rfl (lv_at hl 1 rfl) ?_
        refine gy_aP (i := e1) hx hb hK hW (by omega) hnp rfl d_Rank_passOn_38 ?_
        refine gf_Rank_109 X hW (by unfold gp; omega) (gk_p0 e1) d_Rank_passOn_39 ?_
        refine gf_Rank_67 (z := nI lk) X hW (by unfold gp; omega) (gk_p3 e1) (gv_0_7 (by omega)) (gi_0_7 _) hlk d_Rank_passOn_42 ?_
        refine lv_icmp_ge (tgt := 82) hx hb d_Rank_passOn_45 (by decide) (fun h45 => ?_) (fun h45 => ?_)
        · -- 45 t
          have h45 : lk ≤ k := (nI_leI (a := lk) (b := k) (by omega) (by omega)).mp h45
          refine hret ((a, x, o1), v) _ _ _ _ ?_ hW hS d_Rank_passOn_82
          obtain rfl : k = lk := by omega
          exact ⟨o1, rfl, h0, h2, hs⟩
        · -- 45 f
          have h45 : k < lk := Nat.lt_of_not_le fun q => h45 ((nI_leI (a := lk) (b := k) (by omega) (by omega)).mpr q)
          refine lv_aload_n hx hb d_Rank_passOn_48 rfl (lv_at hl 0 rfl) ?_
          refine gf_Rank_30 X hW  d_Rank_passOn_49 ?_
          refine lv_iload_n hx hb d_Rank_passOn_52 rfl (lv_at hl 1 rfl) ?_
          refine gy_aL (i := e1) hx hb hK hW (by omega) rfl d_Rank_passOn_53 ?_
          refine lv_iload hx hb d_Rank_passOn_54 (lv_at hl 3 rfl) ?_
          refine gy_ia (z := ld a hp e1 k) (q := (1, 4, 5 * e1 + k)) hx hb hK hW (by omega) (gk_l (by omega)).1 (by rw [(gk_l (by omega)).2]; exact vp_in_nI (by omega) (by decide)) (gv_1_4 (by omega) (by omega)) ((gi_1_4 _ (by omega)).trans (by rw [nI_clamp (by omega)])) (hle k (by omega)) d_Rank_passOn_56 ?_
          refine lv_istore hx hb d_Rank_passOn_57 hl (by decide) rfl (fun ls hl => ?_)
          have hl : lv_has ls 6 [(5, .int (ld a hp e1 k)), (0, .ref (ad 34)), (1, .int (nI e1)), (2, .long (o 0 e1 / (nI (usN a hp e1 lk)).toInt64)), (4, .int (nI k))] := hl
          refine lv_iload hx hb d_Rank_passOn_59 (lv_at hl 0 rfl) ?_
          refine lv_iconst (v := (-1)) hx hb d_Rank_passOn_61 (by decide) ?_
          refine lv_icmp_eq (tgt := 76) hx hb d_Rank_passOn_62 (by decide) (fun h62 => ?_) (fun h62 => ?_)
          · -- 62 t
            refine lv_iinc (v := nI (k + 1)) (k := 4) hx hb d_Rank_passOn_76 hl rfl (nI_inc k) (by decide) rfl (fun ls hl => ?_)
            have hl : lv_has ls 6 [(4, .int (nI (k + 1))), (5, .int (ld a hp e1 k)), (0, .ref (ad 34)), (1, .int (nI e1)), (2, .long (o 0 e1 / (nI (usN a hp e1 lk)).toInt64))] := hl
            refine lv_goto (tgt := 28) hx hb d_Rank_passOn_79 (by decide) ?_
            exact ih28 (k + 1) o1 _ _ _ (by omega) h0 h2 (fun d hd9 => by rw [hs d hd9, show hrN a hp e1 (nI d) (k + 1) = hrN a hp e1 (nI d) k from if_neg (fun z => nI_neg (by omega) (by decide) (z.symm.trans h62))]) (by omega) (lv_sub hl [2, 3, 4, 0] rfl) hW hS
          · -- 62 f
            obtain ⟨q9, hq9, hq9e⟩ : ∃ q, q < np ∧ ld a hp e1 k = nI q := (rDo_pg hng hd hnp _).elim (fun e => absurd e h62) id
            rw [hq9e] at hl
            refine lv_aload_n hx hb d_Rank_passOn_65 rfl (lv_at hl 1 rfl) ?_
            refine gf_Rank_41 X hW  d_Rank_passOn_66 ?_
            refine lv_iload hx hb d_Rank_passOn_69 (lv_at hl 0 rfl) ?_
            refine lv_dup2_11 hx hb d_Rank_passOn_71 rfl rfl ?_
            refine gy_la (w := o1 1 q9) (k := 1) hx hb hK hW (by decide) (vp_in_nI (by omega) (by decide)) (by rw [nI_clamp (by omega)]) d_Rank_passOn_72 ?_
            refine lv_lload_n hx hb d_Rank_passOn_73 rfl (lv_at hl 3 rfl) ?_
            refine lv_ladd hx hb d_Rank_passOn_74 ?_
            refine gy_lsC (w := (o1 1 q9) + (o 0 e1 / (nI (usN a hp e1 lk)).toInt64)) (k := 1) hx hb hK hW hS (by decide) (vp_in_nI (by omega) (by decide)) d_Rank_passOn_75 (fun H locs hW hS => ?_)
            have hW : gW g A ad np (a, x, guL o1 1 (nI q9).toNatClampNeg ((o1 1 q9) + (o 0 e1 / (nI (usN a hp e1 lk)).toInt64))) v H := hW
            refine lv_iinc (v := nI (k + 1)) (k := 4) hx hb d_Rank_passOn_76 hl rfl (nI_inc k) (by decide) rfl (fun ls hl => ?_)
            have hl : lv_has ls 6 [(4, .int (nI (k + 1))), (5, .int (nI q9)), (0, .ref (ad 34)), (1, .int (nI e1)), (2, .long (o 0 e1 / (nI (usN a hp e1 lk)).toInt64))] := hl
            refine lv_goto (tgt := 28) hx hb d_Rank_passOn_79 (by decide) ?_
            rw [nI_clamp (by omega)] at hW
            exact ih28 (k + 1) (guL o1 1 q9 (o1 1 q9 + o 0 e1 / (nI (usN a hp e1 lk)).toInt64)) _ _ _ (by omega) ((guL_ne (by decide)).trans h0) ((guL_ne (by decide)).trans h2) (fun d hd9 => by
              rw [guL_self]
              by_cases c : d = q9
              · subst c
                rw [pk_uLs, hs d hd9, show hrN a hp e1 (nI d) (k + 1) = hrN a hp e1 (nI d) k + 1 from if_pos hq9e, i64_s _ (by have := hrN_le (a := a) (hp := hp) (e := e1) (d := nI d) k; omega), Int64.add_assoc]
              · rw [pk_uLn c, hs d hd9, show hrN a hp e1 (nI d) (k + 1) = hrN a hp e1 (nI d) k from if_neg (fun z => c (((nI_eq (by omega) (by omega)).mp (hq9e.symm.trans z)).symm))]) (by omega) (lv_sub hl [2, 3, 4, 0] rfl) hW hS
    exact lp28 _ 0 o _ _ _ (Nat.zero_le _) rfl rfl (fun d _ => by rw [show hrN a hp e1 (nI d) 0 = 0 from rfl, i64_0, Int64.add_zero]) (Nat.lt_succ_self _) (lv_sub hl [2, 3, 1, 0] rfl) hW hS
  · -- 6 f
    have h6 : (usN a hp e1 lk) = 0 := (nI_eq (a := (usN a hp e1 lk)) (b := 0) (by omega) (by omega)).mp h6
    refine hret ((a, x, o), v) _ _ _ _ ?_ hW hS d_Rank_passOn_9
    refine ⟨o, rfl, rfl, rfl, fun d hd9 => ?_⟩
    have h9 := hrN_us (a := a) (hp := hp) (e := e1) (d := nI d) (nI_neg (by omega) (by decide)) lk
    rw [show hrN a hp e1 (nI d) lk = 0 by omega, i64_0, Int64.add_zero]
theorem C_Rank_passOn (l : Launch) {g : gG} {A : Nat → Prop} {ad : Nat → Nat} {np : Nat} {a x : gA} {o : gL} {v : gS} {ng hp e1 lk : Nat} (hw : WFw np a) (hng : a 0 25 = nI ng) (hd : dst (a 15) ng np) (he : e1 < np) (hlk : a 7 e1 = nI lk) (hlk5 : lk ≤ 5) (hle : ∀ k, k < lk → x 4 (5 * e1 + k) = ld a hp e1 k) (hus : x 5 e1 = nI (usN a hp e1 lk)) : CtV l y_Rank_passOn b_Rank_passOn 6 0 [.ref (ad 34), .int (nI e1)] g A ad np (a, x, o) v (fun t => ∃ o', t = ((a, x, o'), v) ∧ o' 0 = o 0 ∧ o' 2 = o 2 ∧ ∀ d, d < np → o' 1 d = o 1 d + (nI (hrN a hp e1 (nI d) lk)).toInt64 * (o 0 e1 / (nI (usN a hp e1 lk)).toInt64)) := mkV (by decide) rfl (Nat.le_of_ble_eq_true rfl) (B_Rank_passOn l hw hng hd he hlk hlk5 hle hus)

set_option maxHeartbeats 400000 in
set_option maxRecDepth 20000 in
theorem B_Rank_playRound (l : Launch) {g : gG} {A : Nat → Prop} {ad : Nat → Nat} {np : Nat} {a x : gA} {o : gL} {v : gS} {ng hp : Nat} {rk : Nat → Int64} (hw : WFw np a) (hng : a 0 25 = nI ng) (hd : dst (a 15) ng np) (hDL : DL a ng x) (hLE : ∀ e, e < np → sIsD a (nI e) = true → LE a hp x e) (hRK : ∀ e, e < np → sIsD a (nI e) = true → o 0 e = rk e) : BdV l b_Rank_playRound 3 R_Rank 1 [.ref (ad 34)] g A ad np (a, x, o) v (fun t => ∃ o', t = ((a, x, o'), v) ∧ ∀ e, e < np → sIsD a (nI e) = true → o' 0 e = 150000 + 85 * smF a hp rk e ng / 100) := by
  intro p e R s m args below meth c Q ls X hW hS hR hl hret
  have hx := X.1.1
  have hb := X.1.2.1
  have hml := X.1.2.2.1
  have hown := X.1.2.2.2.1
  have hts := X.1.2.2.2.2
  have hK := X.2.1
  have hl : lv_has ls 3 [(0, .ref (ad 34))] := hl
  have hnp := hw.1
  have hng32 := dst_le hd hnp
  have hcn : cn a 25 = ng := cn_of hng (by omega)
  have hm := dcN_le a ng
  refine lv_iconst (v := 0) hx hb d_Rank_playRound_0 (by decide) ?_
  refine lv_istore_n hx hb d_Rank_playRound_1 rfl hl (by decide) rfl (fun ls hl => ?_)
  have hl : lv_has ls 3 [(1, .int 0), (0, .ref (ad 34))] := hl
  have lp2 : ∀ (fuel : Nat) (j : Nat) (o1 : gL) (ls : Array Slot) (H : Heap) (locs : List Loc), (j ≤ dcN a ng) → (o1 0 = o 0) → (∀ i, i < ng → ∀ e, a 15 i = nI e → sIsD a (nI e) = true → e < np → dcN a i < j → o1 1 e = 0) → dcN a ng - j < fuel → lv_has ls 3 [(0, .ref (ad 34)), (1, .int (nI j))] → gW g A ad np (a, x, o1) v H → va_S A s.heap H locs → W p l e R s m args below meth c H locs 0 0 Q (F0 m 2 ls []) := by
    intro fuel
    induction fuel with
    | zero => intro j o1 ls H locs _ _ _ hfu; exact absurd hfu (Nat.not_lt_zero _)
    | succ fuel ih2 =>
      intro j o1 ls H locs hj h0 hz hfu hl hW hS
      refine lv_iload_n hx hb d_Rank_playRound_2 rfl (lv_at hl 1 rfl) ?_
      refine lv_aload_n hx hb d_Rank_playRound_3 rfl (lv_at hl 0 rfl) ?_
      refine gf_Rank_24 X hW  d_Rank_playRound_4 ?_
      refine gf_Rank_67 (z := nI (dcN a ng)) X hW (by omega) rfl (gv_1_2_1 _) rfl hDL.1 d_Rank_playRound_7 ?_
      refine lv_icmp_ge (tgt := 33) hx hb d_Rank_playRound_10 (by decide) (fun h10 => ?_) (fun h10 => ?_)
      · -- 10 t
        have h10 : (dcN a ng) ≤ j := (nI_leI (a := (dcN a ng)) (b := j) (by omega) (by omega)).mp h10
        refine lv_iconst (v := 0) hx hb d_Rank_playRound_33 (by decide) ?_
        refine lv_istore_n hx hb d_Rank_playRound_34 rfl hl (by decide) rfl (fun ls hl => ?_)
        have hl : lv_has ls 3 [(1, .int 0), (0, .ref (ad 34))] := hl
        have lp35 : ∀ (fuel : Nat) (j : Nat) (i1 : Nat) (o2 : gL) (ls : Array Slot) (H : Heap) (locs : List Loc), (j ≤ dcN a ng) → (i1 ≤ ng) → (dcN a i1 = j) → (o2 0 = o 0) → (∀ e, e < np → sIsD a (nI e) = true → o2 1 e = smF a hp rk e i1) → dcN a ng - j < fuel → lv_has ls 3 [(0, .ref (ad 34)), (1, .int (nI j))] → gW g A ad np (a, x, o2) v H → va_S A s.heap H locs → W p l e R s m args below meth c H locs 0 0 Q (F0 m 35 ls []) := by
          intro fuel
          induction fuel with
          | zero => intro j i1 o2 ls H locs _ _ _ _ _ hfu; exact absurd hfu (Nat.not_lt_zero _)
          | succ fuel ih35 =>
            intro j i1 o2 ls H locs hj hi1 hdc h0b hS9 hfu hl hW hS
            refine lv_iload_n hx hb d_Rank_playRound_35 rfl (lv_at hl 1 rfl) ?_
            refine lv_aload_n hx hb d_Rank_playRound_36 rfl (lv_at hl 0 rfl) ?_
            refine gf_Rank_24 X hW  d_Rank_playRound_37 ?_
            refine gf_Rank_67 (z := nI (dcN a ng)) X hW (by omega) rfl (gv_1_2_1 _) rfl hDL.1 d_Rank_playRound_40 ?_
            refine lv_icmp_ge (tgt := 64) hx hb d_Rank_playRound_43 (by decide) (fun h43 => ?_) (fun h43 => ?_)
            · -- 43 t
              have h43 : (dcN a ng) ≤ j := (nI_leI (a := (dcN a ng)) (b := j) (by omega) (by omega)).mp h43
              refine lv_iconst (v := 0) hx hb d_Rank_playRound_64 (by decide) ?_
              refine lv_istore_n hx hb d_Rank_playRound_65 rfl hl (by decide) rfl (fun ls hl => ?_)
              have hl : lv_has ls 3 [(1, .int 0), (0, .ref (ad 34))] := hl
              have lp66 : ∀ (fuel : Nat) (j : Nat) (o4 : gL) (ls : Array Slot) (H : Heap) (locs : List Loc), (j ≤ dcN a ng) → (∀ e, e < np → sIsD a (nI e) = true → o4 1 e = smF a hp rk e ng) → (∀ i, i < ng → ∀ e, a 15 i = nI e → sIsD a (nI e) = true → e < np → dcN a i < j → o4 0 e = 150000 + 85 * smF a hp rk e ng / 100) → dcN a ng - j < fuel → lv_has ls 3 [(0, .ref (ad 34)), (1, .int (nI j))] → gW g A ad np (a, x, o4) v H → va_S A s.heap H locs → W p l e R s m args below meth c H locs 0 0 Q (F0 m 66 ls []) := by
                intro fuel
                induction fuel with
                | zero => intro j o4 ls H locs _ _ _ hfu; exact absurd hfu (Nat.not_lt_zero _)
                | succ fuel ih66 =>
                  intro j o4 ls H locs hj hS4 hC hfu hl hW hS
                  refine lv_iload_n hx hb d_Rank_playRound_66 rfl (lv_at hl 1 rfl) ?_
                  refine lv_aload_n hx hb d_Rank_playRound_67 rfl (lv_at hl 0 rfl) ?_
                  refine gf_Rank_24 X hW  d_Rank_playRound_68 ?_
                  refine gf_Rank_67 (z := nI (dcN a ng)) X hW (by omega) rfl (gv_1_2_1 _) rfl hDL.1 d_Rank_playRound_71 ?_
                  refine lv_icmp_ge (tgt := 116) hx hb d_Rank_playRound_74 (by decide) (fun h74 => ?_) (fun h74 => ?_)
                  · -- 74 t
                    have h74 : (dcN a ng) ≤ j := (nI_leI (a := (dcN a ng)) (b := j) (by omega) (by omega)).mp h74
                    refine hret ((a, x, o4), v) _ _ _ _ ?_ hW hS d_Rank_playRound_116
                    refine ⟨o4, rfl, fun e he hs => ?_⟩
                    obtain ⟨i, hi, ei⟩ := doc_ix hng hd hnp he hs
                    exact hC i hi e ei hs he (by have := dcN_lt (show sIsD a (a 15 i) = true by rw [ei]; exact hs) hi; omega)
                  · -- 74 f
                    have h74 : j < (dcN a ng) := Nat.lt_of_not_le fun q => h74 ((nI_leI (a := (dcN a ng)) (b := j) (by omega) (by omega)).mpr q)
                    obtain ⟨i0, e0, hi0, he0, ee0, hs0, hdc0, hx30⟩ := DL_at hDL hd (show j < dcN a ng by omega)
                    refine lv_aload_n hx hb d_Rank_playRound_77 rfl (lv_at hl 0 rfl) ?_
                    refine gf_Rank_24 X hW  d_Rank_playRound_78 ?_
                    refine lv_iload_n hx hb d_Rank_playRound_81 rfl (lv_at hl 1 rfl) ?_
                    refine gc_iV (As := [.int (nI j)]) (b := ad 35) (rest := []) X cw_Rank_71 (C_Row_at l (u := (a, x, o4)) (v := v) (x := nI j) (n := dcN a ng) (f := x 3) (gRow_35 np) hDL.1 (by omega) (fun i _ => rfl)) hW hS (gW_recv (ci := 3) (fs := gf3 ad 35) hK hW (by omega) (fun σ τ => ge_3 rfl σ τ) (r := (R_Row, F_Row, 2)) rfl) ⟨Nat.le_trans (Nat.le_of_ble_eq_true rfl) hR.1, Nat.le_trans (Nat.le_of_ble_eq_true rfl) hR.2⟩ rfl hl.1 rfl (Nat.le_of_ble_eq_true rfl) d_Rank_playRound_82 ⟨Nat.zero_le _, Nat.zero_le _⟩ (fun r t H locs hp hW hS => ?_)
                    obtain ⟨rfl, hr9⟩ := hp
                    rw [at_in (by omega) (by omega), hx30] at hr9
                    subst hr9
                    have hW : gW g A ad np (a, x, o4) v H := hW
                    refine lv_istore_n hx hb d_Rank_playRound_85 rfl hl (by decide) rfl (fun ls hl => ?_)
                    have hl : lv_has ls 3 [(2, .int (nI e0)), (0, .ref (ad 34)), (1, .int (nI j))] := hl
                    refine lv_aload_n hx hb d_Rank_playRound_86 rfl (lv_at hl 1 rfl) ?_
                    refine gf_Rank_37 X hW  d_Rank_playRound_87 ?_
                    refine lv_iload_n hx hb d_Rank_playRound_90 rfl (lv_at hl 0 rfl) ?_
                    refine lv_ldc2 (v := 150000) hx hb hown (hts _ w_Rank_constl_119) d_Rank_playRound_91 ?_
                    refine lv_ldc2 (v := 85) hx hb hown (hts _ w_Rank_constl_121) d_Rank_playRound_94 ?_
                    refine lv_aload_n hx hb d_Rank_playRound_97 rfl (lv_at hl 1 rfl) ?_
                    refine gf_Rank_41 X hW  d_Rank_playRound_98 ?_
                    refine lv_iload_n hx hb d_Rank_playRound_101 rfl (lv_at hl 0 rfl) ?_
                    refine gy_la (w := smF a hp rk e0 ng) (k := 1) hx hb hK hW (by decide) (vp_in_nI (by omega) (by decide)) (by rw [nI_clamp (by omega)]; exact hS4 e0 he0 hs0) d_Rank_playRound_102 ?_
                    refine lv_lmul hx hb d_Rank_playRound_103 ?_
                    refine lv_ldc2 (v := 100) hx hb hown (hts _ w_Rank_constl_123) d_Rank_playRound_104 ?_
                    refine lv_ldiv hx hb d_Rank_playRound_107 (by decide) ?_
                    refine lv_ladd hx hb d_Rank_playRound_108 ?_
                    refine gy_lsC (w := 150000 + ((85 * (smF a hp rk e0 ng)) / 100)) (k := 0) hx hb hK hW hS (by decide) (vp_in_nI (by omega) (by decide)) d_Rank_playRound_109 (fun H locs hW hS => ?_)
                    have hW : gW g A ad np (a, x, guL o4 0 (nI e0).toNatClampNeg (150000 + ((85 * (smF a hp rk e0 ng)) / 100))) v H := hW
                    refine lv_iinc (v := nI (j + 1)) (k := 2) hx hb d_Rank_playRound_110 hl rfl (nI_inc j) (by decide) rfl (fun ls hl => ?_)
                    have hl : lv_has ls 3 [(1, .int (nI (j + 1))), (2, .int (nI e0)), (0, .ref (ad 34))] := hl
                    refine lv_goto (tgt := 66) hx hb d_Rank_playRound_113 (by decide) ?_
                    rw [nI_clamp (by omega)] at hW
                    exact ih66 (j + 1) (guL o4 0 e0 (150000 + 85 * smF a hp rk e0 ng / 100)) _ _ _ (by omega) (fun e he hs => (congrFun (guL_ne (by decide)) e).trans (hS4 e he hs)) (fun i hi e ei hs he h => by rw [guL_self]; by_cases c : e = e0; subst c; exact pk_uLs; rw [pk_uLn c]; refine hC i hi e ei hs he (Nat.lt_of_le_of_ne (by omega) (fun q => c ?_)); have := dc_one (by rw [ei]; exact hs) (by rw [ee0]; exact hs0) (q.trans hdc0.symm); subst this; exact (nI_eq (by omega) (by omega)).mp (ei.symm.trans ee0)) (by omega) (lv_sub hl [2, 0] rfl) hW hS
              exact lp66 _ 0 o2 _ _ _ (Nat.zero_le _) (fun e he hs => by rw [hS9 e he hs]; exact (smF_skip2 hi1 (by omega)).symm) (fun i _ e _ _ _ h => absurd h (Nat.not_lt_zero _)) (Nat.lt_succ_self _) (lv_sub hl [1, 0] rfl) hW hS
            · -- 43 f
              have h43 : j < (dcN a ng) := Nat.lt_of_not_le fun q => h43 ((nI_leI (a := (dcN a ng)) (b := j) (by omega) (by omega)).mpr q)
              obtain ⟨i0, e0, hi0, he0, ee0, hs0, hdc0, hx30⟩ := DL_at hDL hd (show j < dcN a ng by omega)
              obtain ⟨lk, hlk5, hlk, -⟩ := (hw.2.2.1 e0 he0).2.2.2.2
              have elk : lkN a e0 = lk := by unfold lkN; rw [hlk, nI_clamp (by omega)]
              obtain ⟨hle0, hus0⟩ := hLE e0 he0 hs0
              rw [elk] at hle0 hus0
              refine lv_aload_n hx hb d_Rank_playRound_46 rfl (lv_at hl 0 rfl) ?_
              refine lv_aload_n hx hb d_Rank_playRound_47 rfl (lv_at hl 0 rfl) ?_
              refine gf_Rank_24 X hW  d_Rank_playRound_48 ?_
              refine lv_iload_n hx hb d_Rank_playRound_51 rfl (lv_at hl 1 rfl) ?_
              refine gc_iV (As := [.int (nI j)]) (b := ad 35) (rest := [.ref (ad 34)]) X cw_Rank_71 (C_Row_at l (u := (a, x, o2)) (v := v) (x := nI j) (n := dcN a ng) (f := x 3) (gRow_35 np) hDL.1 (by omega) (fun i _ => rfl)) hW hS (gW_recv (ci := 3) (fs := gf3 ad 35) hK hW (by omega) (fun σ τ => ge_3 rfl σ τ) (r := (R_Row, F_Row, 2)) rfl) ⟨Nat.le_trans (Nat.le_of_ble_eq_true rfl) hR.1, Nat.le_trans (Nat.le_of_ble_eq_true rfl) hR.2⟩ rfl hl.1 rfl (Nat.le_of_ble_eq_true rfl) d_Rank_playRound_52 ⟨Nat.zero_le _, Nat.zero_le _⟩ (fun r t H locs hp hW hS => ?_)
              obtain ⟨rfl, hr9⟩ := hp
              rw [at_in (by omega) (by omega), hx30] at hr9
              subst hr9
              have hW : gW g A ad np (a, x, o2) v H := hW
              refine gc_vV (As := [.int (nI e0)]) (b := ad 34) (rest := []) X cw_Rank_116 (C_Rank_passOn l (a := a) (x := x) (o := o2) (v := v) (e1 := e0) (lk := lk) (hp := hp) hw hng hd he0 hlk hlk5 hle0 hus0) hW hS (gW_recv (ci := 6) (fs := fun _ => gf6 ad) hK hW (by omega) (fun σ τ => ge_6 rfl σ τ) (r := (R_Rank, F_Rank, 8)) rfl) ⟨Nat.le_trans (Nat.le_of_ble_eq_true rfl) hR.1, Nat.le_trans (Nat.le_of_ble_eq_true rfl) hR.2⟩ rfl hl.1 rfl (Nat.le_of_ble_eq_true rfl) d_Rank_playRound_55 ⟨Nat.zero_le _, Nat.zero_le _⟩ (fun t H locs hp hW hS => ?_)
              obtain ⟨o', rfl, ho0, ho2, hoS⟩ := hp
              have hW : gW g A ad np (a, x, o') v H := hW
              refine lv_iinc (v := nI (j + 1)) (k := 1) hx hb d_Rank_playRound_58 hl rfl (nI_inc j) (by decide) rfl (fun ls hl => ?_)
              have hl : lv_has ls 3 [(1, .int (nI (j + 1))), (0, .ref (ad 34))] := hl
              refine lv_goto (tgt := 35) hx hb d_Rank_playRound_61 (by decide) ?_
              have hle : i1 ≤ i0 := Nat.le_of_not_lt (fun q => by have := dcN_lt (show sIsD a (a 15 i0) = true by rw [ee0]; exact hs0) q; omega)
              exact ih35 (j + 1) (i0 + 1) o' _ _ _ (by omega) (by omega) (by rw [dcN_y (by rw [ee0]; exact hs0), hdc0]) (ho0.trans h0b) (fun e he hs => by rw [hoS e he, hS9 e he hs, smF_add ee0 (by omega) elk hs0, smF_skip2 hle (by omega), h0b, hRK e0 he0 hs0]) (by omega) (lv_sub hl [1, 0] rfl) hW hS
        exact lp35 _ 0 0 o1 _ _ _ (Nat.zero_le _) (Nat.zero_le _) rfl h0 (fun e he hs => by obtain ⟨i, hi, ei⟩ := doc_ix hng hd hnp he hs; exact hz i hi e ei hs he (by have := dcN_lt (show sIsD a (a 15 i) = true by rw [ei]; exact hs) hi; omega)) (Nat.lt_succ_self _) (lv_sub hl [1, 0] rfl) hW hS
      · -- 10 f
        have h10 : j < (dcN a ng) := Nat.lt_of_not_le fun q => h10 ((nI_leI (a := (dcN a ng)) (b := j) (by omega) (by omega)).mpr q)
        obtain ⟨i0, e0, hi0, he0, ee0, hs0, hdc0, hx30⟩ := DL_at hDL hd (show j < dcN a ng by omega)
        refine lv_aload_n hx hb d_Rank_playRound_13 rfl (lv_at hl 0 rfl) ?_
        refine gf_Rank_41 X hW  d_Rank_playRound_14 ?_
        refine lv_aload_n hx hb d_Rank_playRound_17 rfl (lv_at hl 0 rfl) ?_
        refine gf_Rank_24 X hW  d_Rank_playRound_18 ?_
        refine lv_iload_n hx hb d_Rank_playRound_21 rfl (lv_at hl 1 rfl) ?_
        refine gc_iV (As := [.int (nI j)]) (b := ad 35) (rest := [.ref (ad 72)]) X cw_Rank_71 (C_Row_at l (u := (a, x, o1)) (v := v) (x := nI j) (n := dcN a ng) (f := x 3) (gRow_35 np) hDL.1 (by omega) (fun i _ => rfl)) hW hS (gW_recv (ci := 3) (fs := gf3 ad 35) hK hW (by omega) (fun σ τ => ge_3 rfl σ τ) (r := (R_Row, F_Row, 2)) rfl) ⟨Nat.le_trans (Nat.le_of_ble_eq_true rfl) hR.1, Nat.le_trans (Nat.le_of_ble_eq_true rfl) hR.2⟩ rfl hl.1 rfl (Nat.le_of_ble_eq_true rfl) d_Rank_playRound_22 ⟨Nat.zero_le _, Nat.zero_le _⟩ (fun r t H locs hp hW hS => ?_)
        obtain ⟨rfl, hr9⟩ := hp
        rw [at_in (by omega) (by omega), hx30] at hr9
        subst hr9
        have hW : gW g A ad np (a, x, o1) v H := hW
        refine lv_lconst (v := 0) hx hb d_Rank_playRound_25 (by decide) ?_
        refine gy_lsC (w := 0) (k := 1) hx hb hK hW hS (by decide) (vp_in_nI (by omega) (by decide)) d_Rank_playRound_26 (fun H locs hW hS => ?_)
        have hW : gW g A ad np (a, x, guL o1 1 (nI e0).toNatClampNeg 0) v H := hW
        refine lv_iinc (v := nI (j + 1)) (k := 1) hx hb d_Rank_playRound_27 hl rfl (nI_inc j) (by decide) rfl (fun ls hl => ?_)
        have hl : lv_has ls 3 [(1, .int (nI (j + 1))), (0, .ref (ad 34))] := hl
        refine lv_goto (tgt := 2) hx hb d_Rank_playRound_30 (by decide) ?_
        rw [nI_clamp (by omega)] at hW
        exact ih2 (j + 1) (guL o1 1 e0 0) _ _ _ (by omega) ((guL_ne (by decide)).trans h0) (fun i hi e ei hs he h => by rw [guL_self]; by_cases c : e = e0; subst c; exact pk_uLs; rw [pk_uLn c]; refine hz i hi e ei hs he (Nat.lt_of_le_of_ne (by omega) (fun q => c ?_)); have := dc_one (by rw [ei]; exact hs) (by rw [ee0]; exact hs0) (q.trans hdc0.symm); subst this; exact (nI_eq (by omega) (by omega)).mp (ei.symm.trans ee0)) (by omega) (lv_sub hl [1, 0] rfl) hW hS
  exact lp2 _ 0 o _ _ _ (Nat.zero_le _) rfl (fun i _ e _ _ _ h => absurd h (Nat.not_lt_zero _)) (Nat.lt_succ_self _) (lv_sub hl [1, 0] rfl) hW hS
theorem C_Rank_playRound (l : Launch) {g : gG} {A : Nat → Prop} {ad : Nat → Nat} {np : Nat} {a x : gA} {o : gL} {v : gS} {ng hp : Nat} {rk : Nat → Int64} (hw : WFw np a) (hng : a 0 25 = nI ng) (hd : dst (a 15) ng np) (hDL : DL a ng x) (hLE : ∀ e, e < np → sIsD a (nI e) = true → LE a hp x e) (hRK : ∀ e, e < np → sIsD a (nI e) = true → o 0 e = rk e) : CtV l y_Rank_playRound b_Rank_playRound 3 1 [.ref (ad 34)] g A ad np (a, x, o) v (fun t => ∃ o', t = ((a, x, o'), v) ∧ ∀ e, e < np → sIsD a (nI e) = true → o' 0 e = 150000 + 85 * smF a hp rk e ng / 100) := mkV (by decide) rfl (Nat.le_of_ble_eq_true rfl) (B_Rank_playRound l hw hng hd hDL hLE hRK)

