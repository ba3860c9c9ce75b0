/-! specs_pg -/
set_option maxHeartbeats 400000 in
set_option maxRecDepth 20000 in
theorem B_PG_write (l : Launch) {g : gG} {A : Nat → Prop} {ad : Nat → Nat} {np : Nat} {a x : gA} {o : gL} {v : gS} {w1 w2 : Int32} (hw : WFw np a) : BdI l b_PG_write 3 R_PG 2 [.ref (ad 0), .int w1, .int w2] g A ad np (a, x, o) v (fun r t => t = ((sW a w1 w2, x, o), v) ∧ r = bI (pW a w1 w2)) := by
  intro p e R s m args below meth c Q ls X hW hS hR hl hret
  have hx := X.1.1
  have hb := X.1.2.1
  have hml := X.1.2.2.1
  have hown := X.1.2.2.2.1
  have hts := X.1.2.2.2.2
  have hK := X.2.1
  have hl : lv_has ls 3 [(0, .ref (ad 0)), (1, .int w1), (2, .int w2)] := hl
  have hnp := hw.1
  have hpc := hw.2.1
  refine lv_aload_n hx hb d_PG_write_0 rfl (lv_at hl 0 rfl) ?_
  refine lv_iload_n hx hb d_PG_write_1 rfl (lv_at hl 1 rfl) ?_
  refine gc_iV (As := [.int w1]) (b := ad 0) (rest := []) X cw_PG_42 (C_PG_canChange l (a := a) (x := x) (o := o) (v := v) (w := w1)) hW hS (gW_recv (ci := 0) (fs := gf0 ad) hK hW (by omega) (fun σ τ => ge_0 rfl σ τ) (r := (R_PG, F_PG, 4)) rfl) ⟨Nat.le_trans (Nat.le_of_ble_eq_true rfl) hR.1, Nat.le_trans (Nat.le_of_ble_eq_true rfl) hR.2⟩ rfl hl.1 rfl (Nat.le_of_ble_eq_true rfl) d_PG_write_2 ⟨Nat.zero_le _, Nat.zero_le _⟩ (fun r t H locs hp hW hS => ?_)
  obtain ⟨rfl, rfl⟩ := hp
  have hW : gW g A ad np (a, x, o) v H := hW
  refine lv_if_eq (tgt := 41) hx hb d_PG_write_5 (by decide) (fun h5 => ?_) (fun h5 => ?_)
  · -- 5 t
    have h5 : (decide (a 0 13 = 0) && sIs a w1) = false := bI_0 h5
    refine lv_iconst (v := 0) hx hb d_PG_write_41 (by decide) ?_
    refine hret 0 ((a, x, o), v) _ _ _ _ ?_ hW hS d_PG_write_42
    first
      | (have e9 : pW a w1 w2 = false := by unfold pW; rw [h5]; rfl
         exact ⟨by unfold sW; rw [if_neg (by rw [e9]; decide)], by rw [e9]; rfl⟩)
      | (have e9 : pW a (nI P) w2 = false := by unfold pW; rw [h15]; simp
         exact ⟨by unfold sW; rw [if_neg (by rw [e9]; decide)], by rw [e9]; rfl⟩)
      | (have e9 : pW a (nI P) w2 = false := by unfold pW; rw [ewc, decide_eq_false (Nat.not_lt.mpr hc8)]; simp
         exact ⟨by unfold sW; rw [if_neg (by rw [e9]; decide)], by rw [e9]; rfl⟩)
  · -- 5 f
    have h5 : (decide (a 0 13 = 0) && sIs a w1) = true := bI_n0 h5
    rw [Bool.and_eq_true, decide_eq_true_eq] at h5
    obtain ⟨hon, hpg⟩ := h5
    obtain ⟨P, hP, rfl⟩ := sIs_of hpc hnp hpg
    obtain ⟨wc, hwc8, hwc⟩ := (hw.2.2.1 P hP).2.2.2.1
    have ewc : (a 5 (nI P).toNatClampNeg).toNatClampNeg = wc := by rw [nI_clamp (by omega), hwc, nI_clamp (by omega)]
    refine lv_iload_n hx hb d_PG_write_8 rfl (lv_at hl 2 rfl) ?_
    refine lv_iconst (v := 0) hx hb d_PG_write_9 (by decide) ?_
    refine lv_bipush (v := 25) hx hb d_PG_write_10 (by decide) ?_
    refine gc_iS (As := [.int w2, .int 0, .int 25]) (rest := []) X cw_PG_46 (C_PG_isWithin l (w0 := w2) (w1 := 0) (w2 := 25)) hW hS ⟨Nat.le_trans (Nat.le_of_ble_eq_true rfl) hR.1, Nat.le_trans (Nat.le_of_ble_eq_true rfl) hR.2⟩ rfl hl.1 rfl (Nat.le_of_ble_eq_true rfl) d_PG_write_12 ⟨Nat.zero_le _, Nat.zero_le _⟩ (fun r t H locs hp hW hS => ?_)
    obtain ⟨rfl, rfl⟩ := hp
    have hW : gW g A ad np (a, x, o) v H := hW
    refine lv_if_eq (tgt := 41) hx hb d_PG_write_15 (by decide) (fun h15 => ?_) (fun h15 => ?_)
    · -- 15 t
      have h15 : (sIn w2 0 25) = false := bI_0 h15
      refine lv_iconst (v := 0) hx hb d_PG_write_41 (by decide) ?_
      refine hret 0 ((a, x, o), v) _ _ _ _ ?_ hW hS d_PG_write_42
      first
        | (have e9 : pW a w1 w2 = false := by unfold pW; rw [h5]; rfl
           exact ⟨by unfold sW; rw [if_neg (by rw [e9]; decide)], by rw [e9]; rfl⟩)
        | (have e9 : pW a (nI P) w2 = false := by unfold pW; rw [h15]; simp
           exact ⟨by unfold sW; rw [if_neg (by rw [e9]; decide)], by rw [e9]; rfl⟩)
        | (have e9 : pW a (nI P) w2 = false := by unfold pW; rw [ewc, decide_eq_false (Nat.not_lt.mpr hc8)]; simp
           exact ⟨by unfold sW; rw [if_neg (by rw [e9]; decide)], by rw [e9]; rfl⟩)
    · -- 15 f
      have h15 : (sIn w2 0 25) = true := bI_n0 h15
      refine lv_aload_n hx hb d_PG_write_18 rfl (lv_at hl 0 rfl) ?_
      refine gf_PG_10 X hW  d_PG_write_19 ?_
      refine gf_PG_50 X hW  d_PG_write_22 ?_
      refine lv_iload_n hx hb d_PG_write_25 rfl (lv_at hl 1 rfl) ?_
      refine gy_aP (i := P) hx hb hK hW (by omega) hnp rfl d_PG_write_26 ?_
      refine gf_PG_54 X hW (by unfold gp; omega) (gk_p0 P) d_PG_write_27 ?_
      refine lv_iload_n hx hb d_PG_write_30 rfl (lv_at hl 2 rfl) ?_
      refine gc_iV (As := [.int w2]) (b := ad (gp P + 1)) (rest := []) X cw_PG_60 (C_Row_add l (u := (a, x, o)) (v := v) (x := w2) (n := wc) (gRow_b hP) hwc hwc8) hW hS (gW_recv (ci := 3) (fs := gf3 ad (gp P + 1)) hK hW (by unfold gp; omega) (fun σ τ => ge_3 (gk_p1 P) σ τ) (r := (R_Row, F_Row, 2)) rfl) ⟨Nat.le_trans (Nat.le_of_ble_eq_true rfl) hR.1, Nat.le_trans (Nat.le_of_ble_eq_true rfl) hR.2⟩ rfl hl.1 rfl (Nat.le_of_ble_eq_true rfl) d_PG_write_31 ⟨Nat.zero_le _, Nat.zero_le _⟩ (fun r t H locs hp hW hS => ?_)
      rcases Nat.lt_or_ge wc 8 with hc8 | hc8
      · -- 1
        obtain ⟨rfl, rfl⟩ := hp.1 hc8
        have hW : gW g A ad np (gu (gu a 4 (8 * P + wc) w2) 5 P (nI (wc + 1)), x, o) v H := hW
        refine lv_if_eq (tgt := 41) hx hb d_PG_write_34 (by decide) (fun h34 => ?_) (fun h34 => ?_)
        · exact absurd h34 (by decide)
        · -- 34 f
          refine lv_iconst (v := 1) hx hb d_PG_write_37 (by decide) ?_
          refine lv_goto (tgt := 42) hx hb d_PG_write_38 (by decide) ?_
          refine hret 1 ((gu (gu a 4 (8 * P + wc) w2) 5 P (nI (wc + 1)), x, o), v) _ _ _ _ ?_ hW hS d_PG_write_42
          have e9 : pW a (nI P) w2 = true := by unfold pW; rw [decide_eq_true hon, hpg, h15, ewc, decide_eq_true hc8]; rfl
          exact ⟨by unfold sW; rw [if_pos e9, ewc, nI_clamp (by omega)], by rw [e9]; rfl⟩
      · -- 0
        obtain ⟨rfl, rfl⟩ := hp.2 hc8
        have hW : gW g A ad np (a, x, o) v H := hW
        refine lv_if_eq (tgt := 41) hx hb d_PG_write_34 (by decide) (fun h34 => ?_) (fun h34 => ?_)
        · -- 34 t
          refine lv_iconst (v := 0) hx hb d_PG_write_41 (by decide) ?_
          refine hret 0 ((a, x, o), v) _ _ _ _ ?_ hW hS d_PG_write_42
          first
            | (have e9 : pW a w1 w2 = false := by unfold pW; rw [h5]; rfl
               exact ⟨by unfold sW; rw [if_neg (by rw [e9]; decide)], by rw [e9]; rfl⟩)
            | (have e9 : pW a (nI P) w2 = false := by unfold pW; rw [h15]; simp
               exact ⟨by unfold sW; rw [if_neg (by rw [e9]; decide)], by rw [e9]; rfl⟩)
            | (have e9 : pW a (nI P) w2 = false := by unfold pW; rw [ewc, decide_eq_false (Nat.not_lt.mpr hc8)]; simp
               exact ⟨by unfold sW; rw [if_neg (by rw [e9]; decide)], by rw [e9]; rfl⟩)
        · exact absurd h34 (by decide)
theorem C_PG_write (l : Launch) {g : gG} {A : Nat → Prop} {ad : Nat → Nat} {np : Nat} {a x : gA} {o : gL} {v : gS} {w1 w2 : Int32} (hw : WFw np a) : CtI l y_PG_write b_PG_write 3 .boolean 2 [.ref (ad 0), .int w1, .int w2] g A ad np (a, x, o) v (fun r t => t = ((sW a w1 w2, x, o), v) ∧ r = bI (pW a w1 w2)) := mkI (by decide) rfl (Nat.le_of_ble_eq_true rfl) (fun r t h => h.2 ▸ bI_nar _) (B_PG_write l hw)

set_option maxHeartbeats 400000 in
set_option maxRecDepth 20000 in
theorem B_PG_link (l : Launch) {g : gG} {A : Nat → Prop} {ad : Nat → Nat} {np : Nat} {a x : gA} {o : gL} {v : gS} {w1 w2 : Int32} (hw : WFw np a) : BdI l b_PG_link 3 R_PG 2 [.ref (ad 0), .int w1, .int w2] g A ad np (a, x, o) v (fun r t => t = ((sK a w1 w2, x, o), v) ∧ r = bI (pK a w1 w2)) := by
  intro p e R s m args below meth c Q ls X hW hS hR hl hret
  have hx := X.1.1
  have hb := X.1.2.1
  have hml := X.1.2.2.1
  have hown := X.1.2.2.2.1
  have hts := X.1.2.2.2.2
  have hK := X.2.1
  have hl : lv_has ls 3 [(0, .ref (ad 0)), (1, .int w1), (2, .int w2)] := hl
  have hnp := hw.1
  have hpc := hw.2.1
  refine lv_aload_n hx hb d_PG_link_0 rfl (lv_at hl 0 rfl) ?_
  refine lv_iload_n hx hb d_PG_link_1 rfl (lv_at hl 1 rfl) ?_
  refine gc_iV (As := [.int w1]) (b := ad 0) (rest := []) X cw_PG_42 (C_PG_canChange l (a := a) (x := x) (o := o) (v := v) (w := w1)) hW hS (gW_recv (ci := 0) (fs := gf0 ad) hK hW (by omega) (fun σ τ => ge_0 rfl σ τ) (r := (R_PG, F_PG, 4)) rfl) ⟨Nat.le_trans (Nat.le_of_ble_eq_true rfl) hR.1, Nat.le_trans (Nat.le_of_ble_eq_true rfl) hR.2⟩ rfl hl.1 rfl (Nat.le_of_ble_eq_true rfl) d_PG_link_2 ⟨Nat.zero_le _, Nat.zero_le _⟩ (fun r t H locs hp hW hS => ?_)
  obtain ⟨rfl, rfl⟩ := hp
  have hW : gW g A ad np (a, x, o) v H := hW
  refine lv_if_eq (tgt := 42) hx hb d_PG_link_5 (by decide) (fun h5 => ?_) (fun h5 => ?_)
  · -- 5 t
    have h5 : (decide (a 0 13 = 0) && sIs a w1) = false := bI_0 h5
    refine lv_iconst (v := 0) hx hb d_PG_link_42 (by decide) ?_
    refine hret 0 ((a, x, o), v) _ _ _ _ ?_ hW hS d_PG_link_43
    first
      | (have e9 : pK a w1 w2 = false := by unfold pK; rw [h5]; rfl
         exact ⟨by unfold sK; rw [if_neg (by rw [e9]; decide)], by rw [e9]; rfl⟩)
      | (have e9 : pK a (nI P) w2 = false := by unfold pK; rw [h16]; simp
         exact ⟨by unfold sK; rw [if_neg (by rw [e9]; decide)], by rw [e9]; rfl⟩)
      | (have e9 : pK a (nI P) w2 = false := by unfold pK; rw [ewc, decide_eq_false (Nat.not_lt.mpr hc8)]; simp
         exact ⟨by unfold sK; rw [if_neg (by rw [e9]; decide)], by rw [e9]; rfl⟩)
  · -- 5 f
    have h5 : (decide (a 0 13 = 0) && sIs a w1) = true := bI_n0 h5
    rw [Bool.and_eq_true, decide_eq_true_eq] at h5
    obtain ⟨hon, hpg⟩ := h5
    obtain ⟨P, hP, rfl⟩ := sIs_of hpc hnp hpg
    obtain ⟨wc, hwc8, hwc, -⟩ := (hw.2.2.1 P hP).2.2.2.2
    have ewc : (a 7 (nI P).toNatClampNeg).toNatClampNeg = wc := by rw [nI_clamp (by omega), hwc, nI_clamp (by omega)]
    refine lv_aload_n hx hb d_PG_link_8 rfl (lv_at hl 0 rfl) ?_
    refine gf_PG_10 X hW  d_PG_link_9 ?_
    refine lv_iload_n hx hb d_PG_link_12 rfl (lv_at hl 2 rfl) ?_
    refine gc_iV (As := [.int w2]) (b := ad 1) (rest := []) X cw_PG_65 (C_Web_isPage l (w := w2)) hW hS (gW_recv (ci := 1) (fs := gf1 ad) hK hW (by omega) (fun σ τ => ge_1 rfl σ τ) (r := (R_Web, F_Web, 4)) rfl) ⟨Nat.le_trans (Nat.le_of_ble_eq_true rfl) hR.1, Nat.le_trans (Nat.le_of_ble_eq_true rfl) hR.2⟩ rfl hl.1 rfl (Nat.le_of_ble_eq_true rfl) d_PG_link_13 ⟨Nat.zero_le _, Nat.zero_le _⟩ (fun r t H locs hp hW hS => ?_)
    obtain ⟨rfl, rfl⟩ := hp
    have hW : gW g A ad np (a, x, o) v H := hW
    refine lv_if_eq (tgt := 42) hx hb d_PG_link_16 (by decide) (fun h16 => ?_) (fun h16 => ?_)
    · -- 16 t
      have h16 : (sIs a w2) = false := bI_0 h16
      refine lv_iconst (v := 0) hx hb d_PG_link_42 (by decide) ?_
      refine hret 0 ((a, x, o), v) _ _ _ _ ?_ hW hS d_PG_link_43
      first
        | (have e9 : pK a w1 w2 = false := by unfold pK; rw [h5]; rfl
           exact ⟨by unfold sK; rw [if_neg (by rw [e9]; decide)], by rw [e9]; rfl⟩)
        | (have e9 : pK a (nI P) w2 = false := by unfold pK; rw [h16]; simp
           exact ⟨by unfold sK; rw [if_neg (by rw [e9]; decide)], by rw [e9]; rfl⟩)
        | (have e9 : pK a (nI P) w2 = false := by unfold pK; rw [ewc, decide_eq_false (Nat.not_lt.mpr hc8)]; simp
           exact ⟨by unfold sK; rw [if_neg (by rw [e9]; decide)], by rw [e9]; rfl⟩)
    · -- 16 f
      have h16 : (sIs a w2) = true := bI_n0 h16
      refine lv_aload_n hx hb d_PG_link_19 rfl (lv_at hl 0 rfl) ?_
      refine gf_PG_10 X hW  d_PG_link_20 ?_
      refine gf_PG_50 X hW  d_PG_link_23 ?_
      refine lv_iload_n hx hb d_PG_link_26 rfl (lv_at hl 1 rfl) ?_
      refine gy_aP (i := P) hx hb hK hW (by omega) hnp rfl d_PG_link_27 ?_
      refine gf_PG_68 X hW (by unfold gp; omega) (gk_p0 P) d_PG_link_28 ?_
      refine lv_iload_n hx hb d_PG_link_31 rfl (lv_at hl 2 rfl) ?_
      refine gc_iV (As := [.int w2]) (b := ad (gp P + 3)) (rest := []) X cw_PG_60 (C_Row_add l (u := (a, x, o)) (v := v) (x := w2) (n := wc) (gRow_l hP) hwc hwc8) hW hS (gW_recv (ci := 3) (fs := gf3 ad (gp P + 3)) hK hW (by unfold gp; omega) (fun σ τ => ge_3 (gk_p3 P) σ τ) (r := (R_Row, F_Row, 2)) rfl) ⟨Nat.le_trans (Nat.le_of_ble_eq_true rfl) hR.1, Nat.le_trans (Nat.le_of_ble_eq_true rfl) hR.2⟩ rfl hl.1 rfl (Nat.le_of_ble_eq_true rfl) d_PG_link_32 ⟨Nat.zero_le _, Nat.zero_le _⟩ (fun r t H locs hp hW hS => ?_)
      rcases Nat.lt_or_ge wc 5 with hc8 | hc8
      · -- 1
        obtain ⟨rfl, rfl⟩ := hp.1 hc8
        have hW : gW g A ad np (gu (gu a 6 (5 * P + wc) w2) 7 P (nI (wc + 1)), x, o) v H := hW
        refine lv_if_eq (tgt := 42) hx hb d_PG_link_35 (by decide) (fun h35 => ?_) (fun h35 => ?_)
        · exact absurd h35 (by decide)
        · -- 35 f
          refine lv_iconst (v := 1) hx hb d_PG_link_38 (by decide) ?_
          refine lv_goto (tgt := 43) hx hb d_PG_link_39 (by decide) ?_
          refine hret 1 ((gu (gu a 6 (5 * P + wc) w2) 7 P (nI (wc + 1)), x, o), v) _ _ _ _ ?_ hW hS d_PG_link_43
          have e9 : pK a (nI P) w2 = true := by unfold pK; rw [decide_eq_true hon, hpg, h16, ewc, decide_eq_true hc8]; rfl
          exact ⟨by unfold sK; rw [if_pos e9, ewc, nI_clamp (by omega)], by rw [e9]; rfl⟩
      · -- 0
        obtain ⟨rfl, rfl⟩ := hp.2 hc8
        have hW : gW g A ad np (a, x, o) v H := hW
        refine lv_if_eq (tgt := 42) hx hb d_PG_link_35 (by decide) (fun h35 => ?_) (fun h35 => ?_)
        · -- 35 t
          refine lv_iconst (v := 0) hx hb d_PG_link_42 (by decide) ?_
          refine hret 0 ((a, x, o), v) _ _ _ _ ?_ hW hS d_PG_link_43
          first
            | (have e9 : pK a w1 w2 = false := by unfold pK; rw [h5]; rfl
               exact ⟨by unfold sK; rw [if_neg (by rw [e9]; decide)], by rw [e9]; rfl⟩)
            | (have e9 : pK a (nI P) w2 = false := by unfold pK; rw [h16]; simp
               exact ⟨by unfold sK; rw [if_neg (by rw [e9]; decide)], by rw [e9]; rfl⟩)
            | (have e9 : pK a (nI P) w2 = false := by unfold pK; rw [ewc, decide_eq_false (Nat.not_lt.mpr hc8)]; simp
               exact ⟨by unfold sK; rw [if_neg (by rw [e9]; decide)], by rw [e9]; rfl⟩)
        · exact absurd h35 (by decide)
theorem C_PG_link (l : Launch) {g : gG} {A : Nat → Prop} {ad : Nat → Nat} {np : Nat} {a x : gA} {o : gL} {v : gS} {w1 w2 : Int32} (hw : WFw np a) : CtI l y_PG_link b_PG_link 3 .boolean 2 [.ref (ad 0), .int w1, .int w2] g A ad np (a, x, o) v (fun r t => t = ((sK a w1 w2, x, o), v) ∧ r = bI (pK a w1 w2)) := mkI (by decide) rfl (Nat.le_of_ble_eq_true rfl) (fun r t h => h.2 ▸ bI_nar _) (B_PG_link l hw)

set_option maxHeartbeats 400000 in
set_option maxRecDepth 20000 in
theorem B_PG_move (l : Launch) {g : gG} {A : Nat → Prop} {ad : Nat → Nat} {np : Nat} {a x : gA} {o : gL} {v : gS} {w1 w2 : Int32} (hw : WFw np a) : BdI l b_PG_move 3 R_PG 2 [.ref (ad 0), .int w1, .int w2] g A ad np (a, x, o) v (fun r t => r = bI (pM a w1 w2) ∧ (pM a w1 w2 = true → t = ((sM a w1 w2, gu (gu x 0 w1.toNatClampNeg 1) 1 w1.toNatClampNeg w2, o), v)) ∧ (pM a w1 w2 = false → t = ((sM a w1 w2, x, o), v))) := by
  intro p e R s m args below meth c Q ls X hW hS hR hl hret
  have hx := X.1.1
  have hb := X.1.2.1
  have hml := X.1.2.2.1
  have hown := X.1.2.2.2.1
  have hts := X.1.2.2.2.2
  have hK := X.2.1
  have hl : lv_has ls 3 [(0, .ref (ad 0)), (1, .int w1), (2, .int w2)] := hl
  have hnp := hw.1
  have hpc := hw.2.1
  refine lv_aload_n hx hb d_PG_move_0 rfl (lv_at hl 0 rfl) ?_
  refine lv_iload_n hx hb d_PG_move_1 rfl (lv_at hl 1 rfl) ?_
  refine gc_iV (As := [.int w1]) (b := ad 0) (rest := []) X cw_PG_42 (C_PG_canChange l (a := a) (x := x) (o := o) (v := v) (w := w1)) hW hS (gW_recv (ci := 0) (fs := gf0 ad) hK hW (by omega) (fun σ τ => ge_0 rfl σ τ) (r := (R_PG, F_PG, 4)) rfl) ⟨Nat.le_trans (Nat.le_of_ble_eq_true rfl) hR.1, Nat.le_trans (Nat.le_of_ble_eq_true rfl) hR.2⟩ rfl hl.1 rfl (Nat.le_of_ble_eq_true rfl) d_PG_move_2 ⟨Nat.zero_le _, Nat.zero_le _⟩ (fun r t H locs hp hW hS => ?_)
  obtain ⟨rfl, rfl⟩ := hp
  have hW : gW g A ad np (a, x, o) v H := hW
  refine lv_if_eq (tgt := 19) hx hb d_PG_move_5 (by decide) (fun h5 => ?_) (fun h5 => ?_)
  · -- 5 t
    have h5 : (decide (a 0 13 = 0) && sIs a w1) = false := bI_0 h5
    refine lv_iconst (v := 0) hx hb d_PG_move_19 (by decide) ?_
    refine hret 0 ((a, x, o), v) _ _ _ _ ?_ hW hS d_PG_move_20
    first
      | (have e9 : pM a w1 w2 = false := by unfold pM; rw [h5]; rfl
         exact ⟨by rw [e9]; rfl, fun q => absurd (e9.symm.trans q) (by decide), fun _ => by unfold sM; rw [if_neg (by rw [e9]; decide)]⟩)
      | (have e9 : pM a (nI P) w2 = false := by unfold pM; rw [h16, Bool.and_false]
         exact ⟨by rw [e9]; rfl, fun q => absurd (e9.symm.trans q) (by decide), fun _ => by unfold sM; rw [if_neg (by rw [e9]; decide)]⟩)
  · -- 5 f
    have h5 : (decide (a 0 13 = 0) && sIs a w1) = true := bI_n0 h5
    rw [Bool.and_eq_true, decide_eq_true_eq] at h5
    obtain ⟨hon, hpg⟩ := h5
    obtain ⟨P, hP, rfl⟩ := sIs_of hpc hnp hpg
    refine lv_aload_n hx hb d_PG_move_8 rfl (lv_at hl 0 rfl) ?_
    refine gf_PG_10 X hW  d_PG_move_9 ?_
    refine lv_iload_n hx hb d_PG_move_12 rfl (lv_at hl 2 rfl) ?_
    refine gc_iV (As := [.int w2]) (b := ad 1) (rest := []) X cw_PG_65 (C_Web_isPage l (w := w2)) hW hS (gW_recv (ci := 1) (fs := gf1 ad) hK hW (by omega) (fun σ τ => ge_1 rfl σ τ) (r := (R_Web, F_Web, 4)) rfl) ⟨Nat.le_trans (Nat.le_of_ble_eq_true rfl) hR.1, Nat.le_trans (Nat.le_of_ble_eq_true rfl) hR.2⟩ rfl hl.1 rfl (Nat.le_of_ble_eq_true rfl) d_PG_move_13 ⟨Nat.zero_le _, Nat.zero_le _⟩ (fun r t H locs hp hW hS => ?_)
    obtain ⟨rfl, rfl⟩ := hp
    have hW : gW g A ad np (a, x, o) v H := hW
    refine lv_if_ne (tgt := 21) hx hb d_PG_move_16 (by decide) (fun h16 => ?_) (fun h16 => ?_)
    · -- 16 t
      have h16 : (sIs a w2) = true := bI_n0 h16
      refine lv_aload_n hx hb d_PG_move_21 rfl (lv_at hl 0 rfl) ?_
      refine gf_PG_10 X hW  d_PG_move_22 ?_
      refine gf_PG_50 X hW  d_PG_move_25 ?_
      refine lv_iload_n hx hb d_PG_move_28 rfl (lv_at hl 1 rfl) ?_
      refine gy_aP (i := P) hx hb hK hW (by omega) hnp rfl d_PG_move_29 ?_
      refine gs_PG_71 X hS d_PG_move_30 ?_
      refine pf_PG_77 (z := 1) X hW hS (by unfold gp; omega) (gk_p0 P) (gv_1_0 (by omega)) (gi_1_0 _) (w := 1) rfl rfl rfl d_PG_move_33 (fun H locs hW hS => ?_)
      have hW : gW g A ad np (a, gu x 0 P 1, o) v H := hW
      refine lv_aload_n hx hb d_PG_move_36 rfl (lv_at hl 0 rfl) ?_
      refine gf_PG_10 X hW  d_PG_move_37 ?_
      refine gf_PG_50 X hW  d_PG_move_40 ?_
      refine lv_iload_n hx hb d_PG_move_43 rfl (lv_at hl 1 rfl) ?_
      refine gy_aP (i := P) hx hb hK hW (by omega) hnp rfl d_PG_move_44 ?_
      refine lv_iload_n hx hb d_PG_move_45 rfl (lv_at hl 2 rfl) ?_
      refine pf_PG_80 (z := w2) X hW hS (by unfold gp; omega) (gk_p0 P) (gv_1_1 (by omega)) (gi_1_1 _) rfl rfl d_PG_move_46 (fun H locs hW hS => ?_)
      have hW : gW g A ad np (a, gu (gu x 0 P 1) 1 P w2, o) v H := hW
      refine lv_iconst (v := 1) hx hb d_PG_move_49 (by decide) ?_
      have hW := gW_r3 P w2 hW
      refine hret 1 ((gu a 3 P w2, gu (gu x 0 P 1) 1 P w2, o), v) _ _ _ _ ?_ hW hS d_PG_move_50
      have e9 : pM a (nI P) w2 = true := by unfold pM; rw [decide_eq_true hon, hpg, h16]; rfl
      exact ⟨by rw [e9]; rfl, fun _ => by unfold sM; rw [if_pos e9, nI_clamp (by omega)], fun q => absurd (e9.symm.trans q) (by decide)⟩
    · -- 16 f
      have h16 : (sIs a w2) = false := bI_0 h16
      refine lv_iconst (v := 0) hx hb d_PG_move_19 (by decide) ?_
      refine hret 0 ((a, x, o), v) _ _ _ _ ?_ hW hS d_PG_move_20
      first
        | (have e9 : pM a w1 w2 = false := by unfold pM; rw [h5]; rfl
           exact ⟨by rw [e9]; rfl, fun q => absurd (e9.symm.trans q) (by decide), fun _ => by unfold sM; rw [if_neg (by rw [e9]; decide)]⟩)
        | (have e9 : pM a (nI P) w2 = false := by unfold pM; rw [h16, Bool.and_false]
           exact ⟨by rw [e9]; rfl, fun q => absurd (e9.symm.trans q) (by decide), fun _ => by unfold sM; rw [if_neg (by rw [e9]; decide)]⟩)
theorem C_PG_move (l : Launch) {g : gG} {A : Nat → Prop} {ad : Nat → Nat} {np : Nat} {a x : gA} {o : gL} {v : gS} {w1 w2 : Int32} (hw : WFw np a) : CtI l y_PG_move b_PG_move 3 .boolean 2 [.ref (ad 0), .int w1, .int w2] g A ad np (a, x, o) v (fun r t => r = bI (pM a w1 w2) ∧ (pM a w1 w2 = true → t = ((sM a w1 w2, gu (gu x 0 w1.toNatClampNeg 1) 1 w1.toNatClampNeg w2, o), v)) ∧ (pM a w1 w2 = false → t = ((sM a w1 w2, x, o), v))) := mkI (by decide) rfl (Nat.le_of_ble_eq_true rfl) (fun r t h => h.1 ▸ bI_nar _) (B_PG_move l hw)

set_option maxHeartbeats 400000 in
set_option maxRecDepth 20000 in
theorem B_PG_drop (l : Launch) {g : gG} {A : Nat → Prop} {ad : Nat → Nat} {np : Nat} {a x : gA} {o : gL} {v : gS} {w1 : Int32} (hw : WFw np a) : BdI l b_PG_drop 2 R_PG 2 [.ref (ad 0), .int w1] g A ad np (a, x, o) v (fun r t => r = bI (pD a w1) ∧ (pD a w1 = true → t = ((sD a w1, gu x 0 w1.toNatClampNeg 2, o), v)) ∧ (pD a w1 = false → t = ((sD a w1, x, o), v))) := by
  intro p e R s m args below meth c Q ls X hW hS hR hl hret
  have hx := X.1.1
  have hb := X.1.2.1
  have hml := X.1.2.2.1
  have hown := X.1.2.2.2.1
  have hts := X.1.2.2.2.2
  have hK := X.2.1
  have hl : lv_has ls 2 [(0, .ref (ad 0)), (1, .int w1)] := hl
  have hnp := hw.1
  have hpc := hw.2.1
  refine lv_aload_n hx hb d_PG_drop_0 rfl (lv_at hl 0 rfl) ?_
  refine lv_iload_n hx hb d_PG_drop_1 rfl (lv_at hl 1 rfl) ?_
  refine gc_iV (As := [.int w1]) (b := ad 0) (rest := []) X cw_PG_42 (C_PG_canChange l (a := a) (x := x) (o := o) (v := v) (w := w1)) hW hS (gW_recv (ci := 0) (fs := gf0 ad) hK hW (by omega) (fun σ τ => ge_0 rfl σ τ) (r := (R_PG, F_PG, 4)) rfl) ⟨Nat.le_trans (Nat.le_of_ble_eq_true rfl) hR.1, Nat.le_trans (Nat.le_of_ble_eq_true rfl) hR.2⟩ rfl hl.1 rfl (Nat.le_of_ble_eq_true rfl) d_PG_drop_2 ⟨Nat.zero_le _, Nat.zero_le _⟩ (fun r t H locs hp hW hS => ?_)
  obtain ⟨rfl, rfl⟩ := hp
  have hW : gW g A ad np (a, x, o) v H := hW
  refine lv_if_ne (tgt := 10) hx hb d_PG_drop_5 (by decide) (fun h5 => ?_) (fun h5 => ?_)
  · -- 5 t
    have h5 : (decide (a 0 13 = 0) && sIs a w1) = true := bI_n0 h5
    have h5a := h5
    rw [Bool.and_eq_true, decide_eq_true_eq] at h5
    obtain ⟨hon, hpg⟩ := h5
    obtain ⟨P, hP, rfl⟩ := sIs_of hpc hnp hpg
    refine lv_aload_n hx hb d_PG_drop_10 rfl (lv_at hl 0 rfl) ?_
    refine gf_PG_10 X hW  d_PG_drop_11 ?_
    refine gf_PG_50 X hW  d_PG_drop_14 ?_
    refine lv_iload_n hx hb d_PG_drop_17 rfl (lv_at hl 1 rfl) ?_
    refine gy_aP (i := P) hx hb hK hW (by omega) hnp rfl d_PG_drop_18 ?_
    refine gs_PG_84 X hS d_PG_drop_19 ?_
    refine pf_PG_77 (z := 2) X hW hS (by unfold gp; omega) (gk_p0 P) (gv_1_0 (by omega)) (gi_1_0 _) (w := 2) rfl rfl rfl d_PG_drop_22 (fun H locs hW hS => ?_)
    have hW : gW g A ad np (a, gu x 0 P 2, o) v H := hW
    refine lv_iconst (v := 1) hx hb d_PG_drop_25 (by decide) ?_
    have hW := gW_r3 P (-3) hW
    refine hret 1 ((gu a 3 P (-3), gu x 0 P 2, o), v) _ _ _ _ ?_ hW hS d_PG_drop_26
    have e9 : pD a (nI P) = true := h5a
    exact ⟨by rw [e9]; rfl, fun _ => by unfold sD; rw [if_pos e9, nI_clamp (by omega)], fun q => absurd (e9.symm.trans q) (by decide)⟩
  · -- 5 f
    have h5 : (decide (a 0 13 = 0) && sIs a w1) = false := bI_0 h5
    refine lv_iconst (v := 0) hx hb d_PG_drop_8 (by decide) ?_
    refine hret 0 ((a, x, o), v) _ _ _ _ ?_ hW hS d_PG_drop_9
    have e9 : pD a w1 = false := h5
    exact ⟨by rw [e9]; rfl, fun q => absurd (e9.symm.trans q) (by decide), fun _ => by unfold sD; rw [if_neg (by rw [e9]; decide)]⟩
theorem C_PG_drop (l : Launch) {g : gG} {A : Nat → Prop} {ad : Nat → Nat} {np : Nat} {a x : gA} {o : gL} {v : gS} {w1 : Int32} (hw : WFw np a) : CtI l y_PG_drop b_PG_drop 2 .boolean 2 [.ref (ad 0), .int w1] g A ad np (a, x, o) v (fun r t => r = bI (pD a w1) ∧ (pD a w1 = true → t = ((sD a w1, gu x 0 w1.toNatClampNeg 2, o), v)) ∧ (pD a w1 = false → t = ((sD a w1, x, o), v))) := mkI (by decide) rfl (Nat.le_of_ble_eq_true rfl) (fun r t h => h.1 ▸ bI_nar _) (B_PG_drop l hw)

set_option maxHeartbeats 400000 in
set_option maxRecDepth 20000 in
theorem B_PG_rule (l : Launch) {g : gG} {A : Nat → Prop} {ad : Nat → Nat} {np : Nat} {a x : gA} {o : gL} {v : gS} {w1 w2 : Int32} {b : Bool} (hw : WFw np a) : BdI l b_PG_rule 4 R_PG 2 [.ref (ad 0), .int w1, .int w2, .int (bI b)] g A ad np (a, x, o) v (fun r t => t = ((sR a w1 w2 (bI b), x, o), v) ∧ r = bI (pR a w1 w2)) := by
  intro p e R s m args below meth c Q ls X hW hS hR hl hret
  have hx := X.1.1
  have hb := X.1.2.1
  have hml := X.1.2.2.1
  have hown := X.1.2.2.2.1
  have hts := X.1.2.2.2.2
  have hK := X.2.1
  have hl : lv_has ls 4 [(0, .ref (ad 0)), (1, .int w1), (2, .int w2), (3, .int (bI b))] := hl
  have hnp := hw.1
  have hpc := hw.2.1
  refine lv_aload_n hx hb d_PG_rule_0 rfl (lv_at hl 0 rfl) ?_
  refine gf_PG_34 (z := a 0 13) X hW  (gv_0_0_13 _) rfl rfl d_PG_rule_1 ?_
  refine lv_if_ne (tgt := 45) hx hb d_PG_rule_4 (by decide) (fun h4 => ?_) (fun h4 => ?_)
  · -- 4 t
    refine lv_iconst (v := 0) hx hb d_PG_rule_45 (by decide) ?_
    refine hret 0 ((a, x, o), v) _ _ _ _ ?_ hW hS d_PG_rule_46
    first
      | (have e9 : pR a w1 w2 = false := by unfold pR; rw [decide_eq_false h4]; rfl
         exact ⟨by unfold sR; rw [if_neg (by rw [e9]; decide)], by rw [e9]; rfl⟩)
      | (have e9 : pR a w1 w2 = false := by unfold pR; rw [h11]; simp
         exact ⟨by unfold sR; rw [if_neg (by rw [e9]; decide)], by rw [e9]; rfl⟩)
      | (have e9 : pR a (nI hh) w2 = false := by unfold pR; rw [h21]; simp
         exact ⟨by unfold sR; rw [if_neg (by rw [e9]; decide)], by rw [e9]; rfl⟩)
      | (have e9 : pR a (nI hh) w2 = false := by unfold pR; rw [ewc, decide_eq_false (Nat.not_lt.mpr hc8)]; simp
         exact ⟨by unfold sR; rw [if_neg (by rw [e9]; decide)], by rw [e9]; rfl⟩)
  · -- 4 f
    refine lv_iload_n hx hb d_PG_rule_7 rfl (lv_at hl 1 rfl) ?_
    refine gc_iS (As := [.int w1]) (rest := []) X cw_PG_87 (C_PG_isHost l (w0 := w1)) hW hS ⟨Nat.le_trans (Nat.le_of_ble_eq_true rfl) hR.1, Nat.le_trans (Nat.le_of_ble_eq_true rfl) hR.2⟩ rfl hl.1 rfl (Nat.le_of_ble_eq_true rfl) d_PG_rule_8 ⟨Nat.zero_le _, Nat.zero_le _⟩ (fun r t H locs hp hW hS => ?_)
    obtain ⟨rfl, rfl⟩ := hp
    have hW : gW g A ad np (a, x, o) v H := hW
    refine lv_if_eq (tgt := 45) hx hb d_PG_rule_11 (by decide) (fun h11 => ?_) (fun h11 => ?_)
    · -- 11 t
      have h11 : (sIn w1 0 5) = false := bI_0 h11
      refine lv_iconst (v := 0) hx hb d_PG_rule_45 (by decide) ?_
      refine hret 0 ((a, x, o), v) _ _ _ _ ?_ hW hS d_PG_rule_46
      first
        | (have e9 : pR a w1 w2 = false := by unfold pR; rw [decide_eq_false h4]; rfl
           exact ⟨by unfold sR; rw [if_neg (by rw [e9]; decide)], by rw [e9]; rfl⟩)
        | (have e9 : pR a w1 w2 = false := by unfold pR; rw [h11]; simp
           exact ⟨by unfold sR; rw [if_neg (by rw [e9]; decide)], by rw [e9]; rfl⟩)
        | (have e9 : pR a (nI hh) w2 = false := by unfold pR; rw [h21]; simp
           exact ⟨by unfold sR; rw [if_neg (by rw [e9]; decide)], by rw [e9]; rfl⟩)
        | (have e9 : pR a (nI hh) w2 = false := by unfold pR; rw [ewc, decide_eq_false (Nat.not_lt.mpr hc8)]; simp
           exact ⟨by unfold sR; rw [if_neg (by rw [e9]; decide)], by rw [e9]; rfl⟩)
    · -- 11 f
      have h11 : (sIn w1 0 5) = true := bI_n0 h11
      obtain ⟨hh, -, hh5, rfl⟩ := sIn_of (lo := 0) (hi := 5) (by decide) (by decide) h11
      obtain ⟨wc, hwc8, hwc, -⟩ := hw.2.2.2.1 hh (by omega)
      have ewc : (a 10 (nI hh).toNatClampNeg).toNatClampNeg = wc := by rw [nI_clamp (by omega), hwc, nI_clamp (by omega)]
      refine lv_iload_n hx hb d_PG_rule_14 rfl (lv_at hl 2 rfl) ?_
      refine lv_iconst (v := 0) hx hb d_PG_rule_15 (by decide) ?_
      refine lv_ldc (v := 999999) hx hb hown (hts _ w_PG_const_90) d_PG_rule_16 ?_
      refine gc_iS (As := [.int w2, .int 0, .int 999999]) (rest := []) X cw_PG_46 (C_PG_isWithin l (w0 := w2) (w1 := 0) (w2 := 999999)) hW hS ⟨Nat.le_trans (Nat.le_of_ble_eq_true rfl) hR.1, Nat.le_trans (Nat.le_of_ble_eq_true rfl) hR.2⟩ rfl hl.1 rfl (Nat.le_of_ble_eq_true rfl) d_PG_rule_18 ⟨Nat.zero_le _, Nat.zero_le _⟩ (fun r t H locs hp hW hS => ?_)
      obtain ⟨rfl, rfl⟩ := hp
      have hW : gW g A ad np (a, x, o) v H := hW
      refine lv_if_eq (tgt := 45) hx hb d_PG_rule_21 (by decide) (fun h21 => ?_) (fun h21 => ?_)
      · -- 21 t
        have h21 : (sIn w2 0 999999) = false := bI_0 h21
        refine lv_iconst (v := 0) hx hb d_PG_rule_45 (by decide) ?_
        refine hret 0 ((a, x, o), v) _ _ _ _ ?_ hW hS d_PG_rule_46
        first
          | (have e9 : pR a w1 w2 = false := by unfold pR; rw [decide_eq_false h4]; rfl
             exact ⟨by unfold sR; rw [if_neg (by rw [e9]; decide)], by rw [e9]; rfl⟩)
          | (have e9 : pR a w1 w2 = false := by unfold pR; rw [h11]; simp
             exact ⟨by unfold sR; rw [if_neg (by rw [e9]; decide)], by rw [e9]; rfl⟩)
          | (have e9 : pR a (nI hh) w2 = false := by unfold pR; rw [h21]; simp
             exact ⟨by unfold sR; rw [if_neg (by rw [e9]; decide)], by rw [e9]; rfl⟩)
          | (have e9 : pR a (nI hh) w2 = false := by unfold pR; rw [ewc, decide_eq_false (Nat.not_lt.mpr hc8)]; simp
             exact ⟨by unfold sR; rw [if_neg (by rw [e9]; decide)], by rw [e9]; rfl⟩)
      · -- 21 f
        have h21 : (sIn w2 0 999999) = true := bI_n0 h21
        refine lv_aload_n hx hb d_PG_rule_24 rfl (lv_at hl 0 rfl) ?_
        refine gf_PG_10 X hW  d_PG_rule_25 ?_
        refine gf_PG_91 X hW  d_PG_rule_28 ?_
        refine lv_iload_n hx hb d_PG_rule_31 rfl (lv_at hl 1 rfl) ?_
        refine gy_aH (i := hh) hx hb hK hW (by omega) rfl d_PG_rule_32 ?_
        refine lv_iload_n hx hb d_PG_rule_33 rfl (lv_at hl 2 rfl) ?_
        refine lv_iload_n hx hb d_PG_rule_34 rfl (lv_at hl 3 rfl) ?_
        refine gc_iV (As := [.int w2, .int (bI b)]) (b := ad (4 + 3 * hh)) (rest := []) X cw_PG_95 (C_Host_addRule l (a := a) (x := x) (o := o) (v := v) (hh := hh) (n := wc) (pr := w2) (b := b) (by omega) hwc hwc8) hW hS (gW_recv (ci := 2) (fs := gf2 ad (4 + 3 * hh)) hK hW (by omega) (fun σ τ => ge_2 (gk_h0 (by omega)) σ τ) (r := (R_Host, F_Host, 3)) rfl) ⟨Nat.le_trans (Nat.le_of_ble_eq_true rfl) hR.1, Nat.le_trans (Nat.le_of_ble_eq_true rfl) hR.2⟩ rfl hl.1 rfl (Nat.le_of_ble_eq_true rfl) d_PG_rule_35 ⟨Nat.zero_le _, Nat.zero_le _⟩ (fun r t H locs hp hW hS => ?_)
        rcases Nat.lt_or_ge wc 4 with hc8 | hc8
        · -- 1
          obtain ⟨rfl, rfl⟩ := hp.1 hc8
          have hW : gW g A ad np (gu (gu (gu a 8 (4 * hh + wc) w2) 9 (4 * hh + wc) (bI b)) 10 hh (nI (wc + 1)), x, o) v H := hW
          refine lv_if_eq (tgt := 45) hx hb d_PG_rule_38 (by decide) (fun h38 => ?_) (fun h38 => ?_)
          · exact absurd h38 (by decide)
          · -- 38 f
            refine lv_iconst (v := 1) hx hb d_PG_rule_41 (by decide) ?_
            refine lv_goto (tgt := 46) hx hb d_PG_rule_42 (by decide) ?_
            refine hret 1 ((gu (gu (gu a 8 (4 * hh + wc) w2) 9 (4 * hh + wc) (bI b)) 10 hh (nI (wc + 1)), x, o), v) _ _ _ _ ?_ hW hS d_PG_rule_46
            have e9 : pR a (nI hh) w2 = true := by unfold pR; rw [decide_eq_true h4, h11, h21, ewc, decide_eq_true hc8]; rfl
            exact ⟨by unfold sR; rw [if_pos e9, ewc, nI_clamp (by omega)], by rw [e9]; rfl⟩
        · -- 0
          obtain ⟨rfl, rfl⟩ := hp.2 hc8
          have hW : gW g A ad np (a, x, o) v H := hW
          refine lv_if_eq (tgt := 45) hx hb d_PG_rule_38 (by decide) (fun h38 => ?_) (fun h38 => ?_)
          · -- 38 t
            refine lv_iconst (v := 0) hx hb d_PG_rule_45 (by decide) ?_
            refine hret 0 ((a, x, o), v) _ _ _ _ ?_ hW hS d_PG_rule_46
            first
              | (have e9 : pR a w1 w2 = false := by unfold pR; rw [decide_eq_false h4]; rfl
                 exact ⟨by unfold sR; rw [if_neg (by rw [e9]; decide)], by rw [e9]; rfl⟩)
              | (have e9 : pR a w1 w2 = false := by unfold pR; rw [h11]; simp
                 exact ⟨by unfold sR; rw [if_neg (by rw [e9]; decide)], by rw [e9]; rfl⟩)
              | (have e9 : pR a (nI hh) w2 = false := by unfold pR; rw [h21]; simp
                 exact ⟨by unfold sR; rw [if_neg (by rw [e9]; decide)], by rw [e9]; rfl⟩)
              | (have e9 : pR a (nI hh) w2 = false := by unfold pR; rw [ewc, decide_eq_false (Nat.not_lt.mpr hc8)]; simp
                 exact ⟨by unfold sR; rw [if_neg (by rw [e9]; decide)], by rw [e9]; rfl⟩)
          · exact absurd h38 (by decide)
theorem C_PG_rule (l : Launch) {g : gG} {A : Nat → Prop} {ad : Nat → Nat} {np : Nat} {a x : gA} {o : gL} {v : gS} {w1 w2 : Int32} {b : Bool} (hw : WFw np a) : CtI l y_PG_rule b_PG_rule 4 .boolean 2 [.ref (ad 0), .int w1, .int w2, .int (bI b)] g A ad np (a, x, o) v (fun r t => t = ((sR a w1 w2 (bI b), x, o), v) ∧ r = bI (pR a w1 w2)) := mkI (by decide) rfl (Nat.le_of_ble_eq_true rfl) (fun r t h => h.2 ▸ bI_nar _) (B_PG_rule l hw)

set_option maxHeartbeats 400000 in
set_option maxRecDepth 20000 in
theorem B_PG_first (l : Launch) {g : gG} {A : Nat → Prop} {ad : Nat → Nat} {np : Nat} {a x : gA} {o : gL} {v : gS} {w1 : Int32} (hw : WFw np a) : BdI l b_PG_first 2 R_PG 2 [.ref (ad 0), .int w1] g A ad np (a, x, o) v (fun r t => t = ((sF a w1, x, o), v) ∧ r = bI (pF a w1)) := by
  intro p e R s m args below meth c Q ls X hW hS hR hl hret
  have hx := X.1.1
  have hb := X.1.2.1
  have hml := X.1.2.2.1
  have hown := X.1.2.2.2.1
  have hts := X.1.2.2.2.2
  have hK := X.2.1
  have hl : lv_has ls 2 [(0, .ref (ad 0)), (1, .int w1)] := hl
  have hnp := hw.1
  have hpc := hw.2.1
  obtain ⟨kf, hkf6, e12, hkf⟩ := hw.2.2.2.2.2.2.2.1
  have ecn : cn a 12 = kf := cn_of e12 (by omega)
  refine lv_aload_n hx hb d_PG_first_0 rfl (lv_at hl 0 rfl) ?_
  refine lv_iload_n hx hb d_PG_first_1 rfl (lv_at hl 1 rfl) ?_
  refine gc_iV (As := [.int w1]) (b := ad 0) (rest := []) X cw_PG_42 (C_PG_canChange l (a := a) (x := x) (o := o) (v := v) (w := w1)) hW hS (gW_recv (ci := 0) (fs := gf0 ad) hK hW (by omega) (fun σ τ => ge_0 rfl σ τ) (r := (R_PG, F_PG, 4)) rfl) ⟨Nat.le_trans (Nat.le_of_ble_eq_true rfl) hR.1, Nat.le_trans (Nat.le_of_ble_eq_true rfl) hR.2⟩ rfl hl.1 rfl (Nat.le_of_ble_eq_true rfl) d_PG_first_2 ⟨Nat.zero_le _, Nat.zero_le _⟩ (fun r t H locs hp hW hS => ?_)
  obtain ⟨rfl, rfl⟩ := hp
  have hW : gW g A ad np (a, x, o) v H := hW
  refine lv_if_eq (tgt := 26) hx hb d_PG_first_5 (by decide) (fun h5 => ?_) (fun h5 => ?_)
  · -- 5 t
    have h5 : (decide (a 0 13 = 0) && sIs a w1) = false := bI_0 h5
    refine lv_iconst (v := 0) hx hb d_PG_first_26 (by decide) ?_
    refine hret 0 ((a, x, o), v) _ _ _ _ ?_ hW hS d_PG_first_27
    first
      | (have e9 : pF a w1 = false := by unfold pF; rw [h5]; rfl
         exact ⟨by unfold sF; rw [if_neg (by rw [e9]; decide)], by rw [e9]; rfl⟩)
      | (have e9 : pF a w1 = false := by unfold pF; rw [ecn, decide_eq_false (Nat.not_lt.mpr hc8)]; simp
         exact ⟨by unfold sF; rw [if_neg (by rw [e9]; decide)], by rw [e9]; rfl⟩)
  · -- 5 f
    have h5 : (decide (a 0 13 = 0) && sIs a w1) = true := bI_n0 h5
    refine lv_aload_n hx hb d_PG_first_8 rfl (lv_at hl 0 rfl) ?_
    refine gf_PG_10 X hW  d_PG_first_9 ?_
    refine gf_PG_101 X hW  d_PG_first_12 ?_
    refine lv_iload_n hx hb d_PG_first_15 rfl (lv_at hl 1 rfl) ?_
    refine gc_iV (As := [.int w1]) (b := ad 22) (rest := []) X cw_PG_60 (C_Row_add l (u := (a, x, o)) (v := v) (x := w1) (n := kf) (gRow_22 np) e12 hkf6) hW hS (gW_recv (ci := 3) (fs := gf3 ad 22) hK hW (by omega) (fun σ τ => ge_3 rfl σ τ) (r := (R_Row, F_Row, 2)) rfl) ⟨Nat.le_trans (Nat.le_of_ble_eq_true rfl) hR.1, Nat.le_trans (Nat.le_of_ble_eq_true rfl) hR.2⟩ rfl hl.1 rfl (Nat.le_of_ble_eq_true rfl) d_PG_first_16 ⟨Nat.zero_le _, Nat.zero_le _⟩ (fun r t H locs hp hW hS => ?_)
    rcases Nat.lt_or_ge kf 6 with hc8 | hc8
    · -- 1
      obtain ⟨rfl, rfl⟩ := hp.1 hc8
      have hW : gW g A ad np (gu (gu a 11 kf w1) 0 12 (nI (kf + 1)), x, o) v H := hW
      refine lv_if_eq (tgt := 26) hx hb d_PG_first_19 (by decide) (fun h19 => ?_) (fun h19 => ?_)
      · exact absurd h19 (by decide)
      · -- 19 f
        refine lv_iconst (v := 1) hx hb d_PG_first_22 (by decide) ?_
        refine lv_goto (tgt := 27) hx hb d_PG_first_23 (by decide) ?_
        refine hret 1 ((gu (gu a 11 kf w1) 0 12 (nI (kf + 1)), x, o), v) _ _ _ _ ?_ hW hS d_PG_first_27
        have e9 : pF a w1 = true := by unfold pF; rw [h5, ecn, decide_eq_true hc8]; rfl
        exact ⟨by unfold sF; rw [if_pos e9, ecn], by rw [e9]; rfl⟩
    · -- 0
      obtain ⟨rfl, rfl⟩ := hp.2 hc8
      have hW : gW g A ad np (a, x, o) v H := hW
      refine lv_if_eq (tgt := 26) hx hb d_PG_first_19 (by decide) (fun h19 => ?_) (fun h19 => ?_)
      · -- 19 t
        refine lv_iconst (v := 0) hx hb d_PG_first_26 (by decide) ?_
        refine hret 0 ((a, x, o), v) _ _ _ _ ?_ hW hS d_PG_first_27
        first
          | (have e9 : pF a w1 = false := by unfold pF; rw [h5]; rfl
             exact ⟨by unfold sF; rw [if_neg (by rw [e9]; decide)], by rw [e9]; rfl⟩)
          | (have e9 : pF a w1 = false := by unfold pF; rw [ecn, decide_eq_false (Nat.not_lt.mpr hc8)]; simp
             exact ⟨by unfold sF; rw [if_neg (by rw [e9]; decide)], by rw [e9]; rfl⟩)
      · exact absurd h19 (by decide)
theorem C_PG_first (l : Launch) {g : gG} {A : Nat → Prop} {ad : Nat → Nat} {np : Nat} {a x : gA} {o : gL} {v : gS} {w1 : Int32} (hw : WFw np a) : CtI l y_PG_first b_PG_first 2 .boolean 2 [.ref (ad 0), .int w1] g A ad np (a, x, o) v (fun r t => t = ((sF a w1, x, o), v) ∧ r = bI (pF a w1)) := mkI (by decide) rfl (Nat.le_of_ble_eq_true rfl) (fun r t h => h.2 ▸ bI_nar _) (B_PG_first l hw)

set_option maxHeartbeats 400000 in
set_option maxRecDepth 20000 in
theorem B_PG_begin (l : Launch) {g : gG} {A : Nat → Prop} {ad : Nat → Nat} {np : Nat} {a x : gA} {o : gL} {v : gS} {w1 w2 w3 w4 : Int32} (hw : WFw np a) (hwx : WX np a x) (hg : WFg np a) : BdI l b_PG_begin 5 R_PG 3 [.ref (ad 0), .int w1, .int w2, .int w3, .int w4] g A ad np (a, x, o) v (fun r t => r = bI (pB a w1 w2 w3 w4) ∧ ∃ x', t = ((sB a w1 w2 w3 w4, x', o), v) ∧ WX np (sB a w1 w2 w3 w4) x') := by
  intro p e R s m args below meth c Q ls X hW hS hR hl hret
  have hx := X.1.1
  have hb := X.1.2.1
  have hml := X.1.2.2.1
  have hown := X.1.2.2.2.1
  have hts := X.1.2.2.2.2
  have hK := X.2.1
  have hl : lv_has ls 5 [(0, .ref (ad 0)), (1, .int w1), (2, .int w2), (3, .int w3), (4, .int w4)] := hl
  have hnp := hw.1
  have hpc := hw.2.1
  refine lv_aload_n hx hb d_PG_begin_0 rfl (lv_at hl 0 rfl) ?_
  refine gf_PG_34 (z := a 0 13) X hW  (gv_0_0_13 _) rfl rfl d_PG_begin_1 ?_
  refine lv_if_ne (tgt := 60) hx hb d_PG_begin_4 (by decide) (fun h4 => ?_) (fun h4 => ?_)
  · -- 4 t
    refine lv_iconst (v := 0) hx hb d_PG_begin_60 (by decide) ?_
    refine hret 0 ((a, x, o), v) _ _ _ _ ?_ hW hS d_PG_begin_61
    have e9 : pB a w1 w2 w3 w4 = false := by
      unfold pB
      first
        | (rw [decide_eq_false h4]; rfl)
        | (rw [decide_eq_false (p := ¬ a 0 12 = 0) (not_not_intro h17)]; simp; done)
        | (rw [h27]; simp; done)
        | (rw [h36]; simp; done)
        | (rw [h46]; simp; done)
        | (rw [h57]; simp; done)
    have e10 : sB a w1 w2 w3 w4 = a := by unfold sB; rw [if_neg (by rw [e9]; decide)]
    rw [e10]
    exact ⟨by rw [e9]; rfl, x, rfl, hwx⟩
  · -- 4 f
    refine lv_aload_n hx hb d_PG_begin_7 rfl (lv_at hl 0 rfl) ?_
    refine gf_PG_10 X hW  d_PG_begin_8 ?_
    refine gf_PG_101 X hW  d_PG_begin_11 ?_
    refine gf_PG_104 (z := a 0 12) X hW (by omega) rfl (gv_0_0_12 _) rfl rfl d_PG_begin_14 ?_
    refine lv_if_eq (tgt := 60) hx hb d_PG_begin_17 (by decide) (fun h17 => ?_) (fun h17 => ?_)
    · -- 17 t
      refine lv_iconst (v := 0) hx hb d_PG_begin_60 (by decide) ?_
      refine hret 0 ((a, x, o), v) _ _ _ _ ?_ hW hS d_PG_begin_61
      have e9 : pB a w1 w2 w3 w4 = false := by
        unfold pB
        first
          | (rw [decide_eq_false h4]; rfl)
          | (rw [decide_eq_false (p := ¬ a 0 12 = 0) (not_not_intro h17)]; simp; done)
          | (rw [h27]; simp; done)
          | (rw [h36]; simp; done)
          | (rw [h46]; simp; done)
          | (rw [h57]; simp; done)
      have e10 : sB a w1 w2 w3 w4 = a := by unfold sB; rw [if_neg (by rw [e9]; decide)]
      rw [e10]
      exact ⟨by rw [e9]; rfl, x, rfl, hwx⟩
    · -- 17 f
      refine lv_iload_n hx hb d_PG_begin_20 rfl (lv_at hl 1 rfl) ?_
      refine lv_iconst (v := 0) hx hb d_PG_begin_21 (by decide) ?_
      refine lv_bipush (v := 6) hx hb d_PG_begin_22 (by decide) ?_
      refine gc_iS (As := [.int w1, .int 0, .int 6]) (rest := []) X cw_PG_46 (C_PG_isWithin l (w0 := w1) (w1 := 0) (w2 := 6)) hW hS ⟨Nat.le_trans (Nat.le_of_ble_eq_true rfl) hR.1, Nat.le_trans (Nat.le_of_ble_eq_true rfl) hR.2⟩ rfl hl.1 rfl (Nat.le_of_ble_eq_true rfl) d_PG_begin_24 ⟨Nat.zero_le _, Nat.zero_le _⟩ (fun r t H locs hp hW hS => ?_)
      obtain ⟨rfl, rfl⟩ := hp
      have hW : gW g A ad np (a, x, o) v H := hW
      refine lv_if_eq (tgt := 60) hx hb d_PG_begin_27 (by decide) (fun h27 => ?_) (fun h27 => ?_)
      · -- 27 t
        have h27 : (sIn w1 0 6) = false := bI_0 h27
        refine lv_iconst (v := 0) hx hb d_PG_begin_60 (by decide) ?_
        refine hret 0 ((a, x, o), v) _ _ _ _ ?_ hW hS d_PG_begin_61
        have e9 : pB a w1 w2 w3 w4 = false := by
          unfold pB
          first
            | (rw [decide_eq_false h4]; rfl)
            | (rw [decide_eq_false (p := ¬ a 0 12 = 0) (not_not_intro h17)]; simp; done)
            | (rw [h27]; simp; done)
            | (rw [h36]; simp; done)
            | (rw [h46]; simp; done)
            | (rw [h57]; simp; done)
        have e10 : sB a w1 w2 w3 w4 = a := by unfold sB; rw [if_neg (by rw [e9]; decide)]
        rw [e10]
        exact ⟨by rw [e9]; rfl, x, rfl, hwx⟩
      · -- 27 f
        have h27 : (sIn w1 0 6) = true := bI_n0 h27
        refine lv_iload_n hx hb d_PG_begin_30 rfl (lv_at hl 2 rfl) ?_
        refine lv_iconst (v := 0) hx hb d_PG_begin_31 (by decide) ?_
        refine lv_iconst (v := 4) hx hb d_PG_begin_32 (by decide) ?_
        refine gc_iS (As := [.int w2, .int 0, .int 4]) (rest := []) X cw_PG_46 (C_PG_isWithin l (w0 := w2) (w1 := 0) (w2 := 4)) hW hS ⟨Nat.le_trans (Nat.le_of_ble_eq_true rfl) hR.1, Nat.le_trans (Nat.le_of_ble_eq_true rfl) hR.2⟩ rfl hl.1 rfl (Nat.le_of_ble_eq_true rfl) d_PG_begin_33 ⟨Nat.zero_le _, Nat.zero_le _⟩ (fun r t H locs hp hW hS => ?_)
        obtain ⟨rfl, rfl⟩ := hp
        have hW : gW g A ad np (a, x, o) v H := hW
        refine lv_if_eq (tgt := 60) hx hb d_PG_begin_36 (by decide) (fun h36 => ?_) (fun h36 => ?_)
        · -- 36 t
          have h36 : (sIn w2 0 4) = false := bI_0 h36
          refine lv_iconst (v := 0) hx hb d_PG_begin_60 (by decide) ?_
          refine hret 0 ((a, x, o), v) _ _ _ _ ?_ hW hS d_PG_begin_61
          have e9 : pB a w1 w2 w3 w4 = false := by
            unfold pB
            first
              | (rw [decide_eq_false h4]; rfl)
              | (rw [decide_eq_false (p := ¬ a 0 12 = 0) (not_not_intro h17)]; simp; done)
              | (rw [h27]; simp; done)
              | (rw [h36]; simp; done)
              | (rw [h46]; simp; done)
              | (rw [h57]; simp; done)
          have e10 : sB a w1 w2 w3 w4 = a := by unfold sB; rw [if_neg (by rw [e9]; decide)]
          rw [e10]
          exact ⟨by rw [e9]; rfl, x, rfl, hwx⟩
        · -- 36 f
          have h36 : (sIn w2 0 4) = true := bI_n0 h36
          refine lv_iload_n hx hb d_PG_begin_39 rfl (lv_at hl 3 rfl) ?_
          refine lv_iconst (v := 0) hx hb d_PG_begin_40 (by decide) ?_
          refine lv_bipush (v := 9) hx hb d_PG_begin_41 (by decide) ?_
          refine gc_iS (As := [.int w3, .int 0, .int 9]) (rest := []) X cw_PG_46 (C_PG_isWithin l (w0 := w3) (w1 := 0) (w2 := 9)) hW hS ⟨Nat.le_trans (Nat.le_of_ble_eq_true rfl) hR.1, Nat.le_trans (Nat.le_of_ble_eq_true rfl) hR.2⟩ rfl hl.1 rfl (Nat.le_of_ble_eq_true rfl) d_PG_begin_43 ⟨Nat.zero_le _, Nat.zero_le _⟩ (fun r t H locs hp hW hS => ?_)
          obtain ⟨rfl, rfl⟩ := hp
          have hW : gW g A ad np (a, x, o) v H := hW
          refine lv_if_eq (tgt := 60) hx hb d_PG_begin_46 (by decide) (fun h46 => ?_) (fun h46 => ?_)
          · -- 46 t
            have h46 : (sIn w3 0 9) = false := bI_0 h46
            refine lv_iconst (v := 0) hx hb d_PG_begin_60 (by decide) ?_
            refine hret 0 ((a, x, o), v) _ _ _ _ ?_ hW hS d_PG_begin_61
            have e9 : pB a w1 w2 w3 w4 = false := by
              unfold pB
              first
                | (rw [decide_eq_false h4]; rfl)
                | (rw [decide_eq_false (p := ¬ a 0 12 = 0) (not_not_intro h17)]; simp; done)
                | (rw [h27]; simp; done)
                | (rw [h36]; simp; done)
                | (rw [h46]; simp; done)
                | (rw [h57]; simp; done)
            have e10 : sB a w1 w2 w3 w4 = a := by unfold sB; rw [if_neg (by rw [e9]; decide)]
            rw [e10]
            exact ⟨by rw [e9]; rfl, x, rfl, hwx⟩
          · -- 46 f
            have h46 : (sIn w3 0 9) = true := bI_n0 h46
            refine lv_iload hx hb d_PG_begin_49 (lv_at hl 4 rfl) ?_
            refine lv_iconst (v := 1) hx hb d_PG_begin_51 (by decide) ?_
            refine lv_bipush (v := 8) hx hb d_PG_begin_52 (by decide) ?_
            refine gc_iS (As := [.int w4, .int 1, .int 8]) (rest := []) X cw_PG_46 (C_PG_isWithin l (w0 := w4) (w1 := 1) (w2 := 8)) hW hS ⟨Nat.le_trans (Nat.le_of_ble_eq_true rfl) hR.1, Nat.le_trans (Nat.le_of_ble_eq_true rfl) hR.2⟩ rfl hl.1 rfl (Nat.le_of_ble_eq_true rfl) d_PG_begin_54 ⟨Nat.zero_le _, Nat.zero_le _⟩ (fun r t H locs hp hW hS => ?_)
            obtain ⟨rfl, rfl⟩ := hp
            have hW : gW g A ad np (a, x, o) v H := hW
            refine lv_if_ne (tgt := 62) hx hb d_PG_begin_57 (by decide) (fun h57 => ?_) (fun h57 => ?_)
            · -- 57 t
              have h57 : (sIn w4 1 8) = true := bI_n0 h57
              refine lv_aload_n hx hb d_PG_begin_62 rfl (lv_at hl 0 rfl) ?_
              refine gf_PG_21 X hW  d_PG_begin_63 ?_
              refine lv_iload_n hx hb d_PG_begin_66 rfl (lv_at hl 1 rfl) ?_
              refine lv_iload_n hx hb d_PG_begin_67 rfl (lv_at hl 2 rfl) ?_
              refine lv_iload_n hx hb d_PG_begin_68 rfl (lv_at hl 3 rfl) ?_
              refine lv_iload hx hb d_PG_begin_69 (lv_at hl 4 rfl) ?_
              refine gc_vV (As := [.int w1, .int w2, .int w3, .int w4]) (b := ad 24) (rest := []) X cw_PG_107 (C_Gat_startAnew l (a := a) (x := x) (o := o) (v := v) (w1 := w1) (w2 := w2) (w3 := w3) (w4 := w4) hw hwx hg) hW hS (gW_recv (ci := 5) (fs := gf5 ad) hK hW (by omega) (fun σ τ => ge_5 rfl σ τ) (r := (R_Gat, F_Gat, 17)) rfl) ⟨Nat.le_trans (Nat.le_of_ble_eq_true rfl) hR.1, Nat.le_trans (Nat.le_of_ble_eq_true rfl) hR.2⟩ rfl hl.1 rfl (Nat.le_of_ble_eq_true rfl) d_PG_begin_71 ⟨Nat.zero_le _, Nat.zero_le _⟩ (fun t H locs hp hW hS => ?_)
              obtain ⟨x', rfl, hwx2⟩ := hp
              have hW : gW g A ad np (sSt a w1 w2 w3 w4, x', o) v H := hW
              refine lv_aload_n hx hb d_PG_begin_74 rfl (lv_at hl 0 rfl) ?_
              refine lv_iconst (v := 1) hx hb d_PG_begin_75 (by decide) ?_
              refine pf_PG_34 (z := 1) X hW hS  (gv_0_0_13 _) rfl rfl rfl d_PG_begin_76 (fun H locs hW hS => ?_)
              have hW : gW g A ad np (gu (sSt a w1 w2 w3 w4) 0 13 1, x', o) v H := hW
              refine lv_iconst (v := 1) hx hb d_PG_begin_79 (by decide) ?_
              refine hret 1 ((gu (sSt a w1 w2 w3 w4) 0 13 1, x', o), v) _ _ _ _ ?_ hW hS d_PG_begin_80
              have e9 : pB a w1 w2 w3 w4 = true := by unfold pB; rw [decide_eq_true h4, decide_eq_true h17, h27, h36, h46, h57]; rfl
              have e10 : sB a w1 w2 w3 w4 = gu (sSt a w1 w2 w3 w4) 0 13 1 := by unfold sB; rw [if_pos e9]
              rw [e10]
              exact ⟨by rw [e9]; rfl, x', rfl, hwx2⟩
            · -- 57 f
              have h57 : (sIn w4 1 8) = false := bI_0 h57
              refine lv_iconst (v := 0) hx hb d_PG_begin_60 (by decide) ?_
              refine hret 0 ((a, x, o), v) _ _ _ _ ?_ hW hS d_PG_begin_61
              have e9 : pB a w1 w2 w3 w4 = false := by
                unfold pB
                first
                  | (rw [decide_eq_false h4]; rfl)
                  | (rw [decide_eq_false (p := ¬ a 0 12 = 0) (not_not_intro h17)]; simp; done)
                  | (rw [h27]; simp; done)
                  | (rw [h36]; simp; done)
                  | (rw [h46]; simp; done)
                  | (rw [h57]; simp; done)
              have e10 : sB a w1 w2 w3 w4 = a := by unfold sB; rw [if_neg (by rw [e9]; decide)]
              rw [e10]
              exact ⟨by rw [e9]; rfl, x, rfl, hwx⟩
theorem C_PG_begin (l : Launch) {g : gG} {A : Nat → Prop} {ad : Nat → Nat} {np : Nat} {a x : gA} {o : gL} {v : gS} {w1 w2 w3 w4 : Int32} (hw : WFw np a) (hwx : WX np a x) (hg : WFg np a) : CtI l y_PG_begin b_PG_begin 5 .boolean 3 [.ref (ad 0), .int w1, .int w2, .int w3, .int w4] g A ad np (a, x, o) v (fun r t => r = bI (pB a w1 w2 w3 w4) ∧ ∃ x', t = ((sB a w1 w2 w3 w4, x', o), v) ∧ WX np (sB a w1 w2 w3 w4) x') := mkI (by decide) rfl (Nat.le_of_ble_eq_true rfl) (fun r t h => h.1 ▸ bI_nar _) (B_PG_begin l hw hwx hg)

set_option maxHeartbeats 400000 in
set_option maxRecDepth 20000 in
theorem B_PG_stop (l : Launch) {g : gG} {A : Nat → Prop} {ad : Nat → Nat} {np : Nat} {a x : gA} {o : gL} {v : gS}  : BdI l b_PG_stop 1 R_PG 0 [.ref (ad 0)] g A ad np (a, x, o) v (fun r t => t = ((gu a 0 13 0, x, o), v) ∧ r = bI (decide (¬ a 0 13 = 0))) := by
  intro p e R s m args below meth c Q ls X hW hS hR hl hret
  have hx := X.1.1
  have hb := X.1.2.1
  have hml := X.1.2.2.1
  have hown := X.1.2.2.2.1
  have hts := X.1.2.2.2.2
  have hK := X.2.1
  have hl : lv_has ls 1 [(0, .ref (ad 0))] := hl
  refine lv_aload_n hx hb d_PG_stop_0 rfl (lv_at hl 0 rfl) ?_
  refine gf_PG_34 (z := a 0 13) X hW  (gv_0_0_13 _) rfl rfl d_PG_stop_1 ?_
  refine lv_if_ne (tgt := 9) hx hb d_PG_stop_4 (by decide) (fun h4 => ?_) (fun h4 => ?_)
  · -- 4 t
    refine lv_aload_n hx hb d_PG_stop_9 rfl (lv_at hl 0 rfl) ?_
    refine lv_iconst (v := 0) hx hb d_PG_stop_10 (by decide) ?_
    refine pf_PG_34 (z := 0) X hW hS  (gv_0_0_13 _) rfl rfl rfl d_PG_stop_11 (fun H locs hW hS => ?_)
    have hW : gW g A ad np (gu a 0 13 0, x, o) v H := hW
    refine lv_iconst (v := 1) hx hb d_PG_stop_14 (by decide) ?_
    refine hret 1 ((gu a 0 13 0, x, o), v) _ _ _ _ ?_ hW hS d_PG_stop_15
    exact ⟨rfl, by rw [decide_eq_true h4]; rfl⟩
  · -- 4 f
    refine lv_iconst (v := 0) hx hb d_PG_stop_7 (by decide) ?_
    refine hret 0 ((a, x, o), v) _ _ _ _ ?_ hW hS d_PG_stop_8
    exact ⟨by rw [gu_id h4], by rw [decide_eq_false (not_not_intro h4)]; rfl⟩
theorem C_PG_stop (l : Launch) {g : gG} {A : Nat → Prop} {ad : Nat → Nat} {np : Nat} {a x : gA} {o : gL} {v : gS}  : CtI l y_PG_stop b_PG_stop 1 .boolean 0 [.ref (ad 0)] g A ad np (a, x, o) v (fun r t => t = ((gu a 0 13 0, x, o), v) ∧ r = bI (decide (¬ a 0 13 = 0))) := mkI (by decide) rfl (Nat.le_of_ble_eq_true rfl) (fun r t h => h.2 ▸ bI_nar _) (B_PG_stop l )

set_option maxHeartbeats 400000 in
set_option maxRecDepth 20000 in
theorem B_PG_work (l : Launch) {g : gG} {A : Nat → Prop} {ad : Nat → Nat} {np : Nat} {a x : gA} {o : gL} {v : gS} {w1 : Int32} (hw : WFw np a) (hwx : WX np a x) (hg : WFg np a) : BdI l b_PG_work 4 R_PG 5 [.ref (ad 0), .int w1] g A ad np (a, x, o) v (fun r t => r = rWk a w1 ∧ ∃ x', t = ((sWo a w1, x', o), v) ∧ WX np (sWo a w1) x') := by
  intro p e R s m args below meth c Q ls X hW hS hR hl hret
  have hx := X.1.1
  have hb := X.1.2.1
  have hml := X.1.2.2.1
  have hown := X.1.2.2.2.1
  have hts := X.1.2.2.2.2
  have hK := X.2.1
  have hl : lv_has ls 4 [(0, .ref (ad 0)), (1, .int w1)] := hl
  have hnp := hw.1
  have hpc := hw.2.1
  refine lv_aload_n hx hb d_PG_work_0 rfl (lv_at hl 0 rfl) ?_
  refine gf_PG_34 (z := a 0 13) X hW  (gv_0_0_13 _) rfl rfl d_PG_work_1 ?_
  refine lv_if_eq (tgt := 17) hx hb d_PG_work_4 (by decide) (fun h4 => ?_) (fun h4 => ?_)
  · -- 4 t
    refine lv_iconst (v := (-1)) hx hb d_PG_work_17 (by decide) ?_
    refine hret (-1) ((a, x, o), v) _ _ _ _ ?_ hW hS d_PG_work_18
    have e9 : pWk a w1 = false := by
      unfold pWk
      first
        | (rw [decide_eq_false (not_not_intro h4)]; rfl)
        | (rw [h14, Bool.and_false])
    refine ⟨by unfold rWk; rw [if_neg (by rw [e9]; decide)], ?_⟩
    have e10 : sWo a w1 = a := by unfold sWo; rw [if_neg (by rw [e9]; decide)]
    rw [e10]
    exact ⟨x, rfl, hwx⟩
  · -- 4 f
    refine lv_iload_n hx hb d_PG_work_7 rfl (lv_at hl 1 rfl) ?_
    refine lv_iconst (v := 1) hx hb d_PG_work_8 (by decide) ?_
    refine lv_bipush (v := 10) hx hb d_PG_work_9 (by decide) ?_
    refine gc_iS (As := [.int w1, .int 1, .int 10]) (rest := []) X cw_PG_46 (C_PG_isWithin l (w0 := w1) (w1 := 1) (w2 := 10)) hW hS ⟨Nat.le_trans (Nat.le_of_ble_eq_true rfl) hR.1, Nat.le_trans (Nat.le_of_ble_eq_true rfl) hR.2⟩ rfl hl.1 rfl (Nat.le_of_ble_eq_true rfl) d_PG_work_11 ⟨Nat.zero_le _, Nat.zero_le _⟩ (fun r t H locs hp hW hS => ?_)
    obtain ⟨rfl, rfl⟩ := hp
    have hW : gW g A ad np (a, x, o) v H := hW
    refine lv_if_ne (tgt := 19) hx hb d_PG_work_14 (by decide) (fun h14 => ?_) (fun h14 => ?_)
    · -- 14 t
      have h14 : (sIn w1 1 10) = true := bI_n0 h14
      have e9 : pWk a w1 = true := by unfold pWk; rw [decide_eq_true h4, h14]; rfl
      obtain ⟨n, hn1, hn10, rfl⟩ := sIn_of (lo := 1) (hi := 10) (by decide) (by decide) h14
      refine lv_aload_n hx hb d_PG_work_19 rfl (lv_at hl 0 rfl) ?_
      refine gf_PG_21 X hW  d_PG_work_20 ?_
      refine gf_PG_111 (z := a 0 28) X hW  (gv_0_0_28 _) rfl rfl d_PG_work_23 ?_
      refine lv_istore_n hx hb d_PG_work_26 rfl hl (by decide) rfl (fun ls hl => ?_)
      have hl : lv_has ls 4 [(2, .int (a 0 28)), (0, .ref (ad 0)), (1, .int (nI n))] := hl
      refine lv_iconst (v := 0) hx hb d_PG_work_27 (by decide) ?_
      refine lv_istore_n hx hb d_PG_work_28 rfl hl (by decide) rfl (fun ls hl => ?_)
      have hl : lv_has ls 4 [(3, .int 0), (2, .int (a 0 28)), (0, .ref (ad 0)), (1, .int (nI n))] := hl
      have lp29 : ∀ (fuel : Nat) (i : Nat) (x1 : gA) (ls : Array Slot) (H : Heap) (locs : List Loc), (i ≤ n) → (WX np (sWk a i) x1) → n - i < fuel → lv_has ls 4 [(0, .ref (ad 0)), (1, .int (nI n)), (2, .int (a 0 28)), (3, .int (nI i))] → gW g A ad np (sWk a i, x1, o) v H → va_S A s.heap H locs → W p l e R s m args below meth c H locs 0 0 Q (F0 m 29 ls []) := by
        intro fuel
        induction fuel with
        | zero => intro i x1 ls H locs _ _ hfu; exact absurd hfu (Nat.not_lt_zero _)
        | succ fuel ih29 =>
          intro i x1 ls H locs hi hx1 hfu hl hW hS
          refine lv_iload_n hx hb d_PG_work_29 rfl (lv_at hl 3 rfl) ?_
          refine lv_iload_n hx hb d_PG_work_30 rfl (lv_at hl 1 rfl) ?_
          refine lv_icmp_ge (tgt := 57) hx hb d_PG_work_31 (by decide) (fun h31 => ?_) (fun h31 => ?_)
          · -- 31 t
            have h31 : n ≤ i := (nI_leI (a := n) (b := i) (by omega) (by omega)).mp h31
            refine lv_aload_n hx hb d_PG_work_57 rfl (lv_at hl 0 rfl) ?_
            refine gf_PG_21 X hW  d_PG_work_58 ?_
            refine gf_PG_111 (z := (sWk a i) 0 28) X hW  (gv_0_0_28 _) rfl rfl d_PG_work_61 ?_
            refine lv_iload_n hx hb d_PG_work_64 rfl (lv_at hl 2 rfl) ?_
            refine lv_isub hx hb d_PG_work_65 ?_
            refine hret (((sWk a i) 0 28) - (a 0 28)) ((sWk a i, x1, o), v) _ _ _ _ ?_ hW hS d_PG_work_66
            have e8 : sWk a n = sWk a i := by
              first
                | (rw [show n = i by omega])
                | (have h9 := sWk_stop (a := a) (i := i) (by rw [cn_of e20 (by omega), cn_of e21 (by omega)]; omega) (n - i)
                   rw [show i + (n - i) = n by omega] at h9
                   exact h9)
            have e10 : sWo a (nI n) = sWk a i := by unfold sWo; rw [if_pos e9, nI_clamp (by omega), e8]
            refine ⟨by unfold rWk; rw [if_pos e9, nI_clamp (by omega), e8], ?_⟩
            rw [e10]
            exact ⟨x1, rfl, hx1⟩
          · -- 31 f
            have h31 : i < n := Nat.lt_of_not_le fun q => h31 ((nI_leI (a := n) (b := i) (by omega) (by omega)).mpr q)
            obtain ⟨hwi, hgi⟩ := sWk_wf hw hg i
            have hgi2 := hgi
            obtain ⟨hd, nq, nf, ng, mh, mq, mf, mg, hp0, e20, e21, -, -, -, -, -, -, -, -, -, hdq, -, -, -, -, -, d12, -⟩ := hgi2
            have hnq := dst_le d12 hnp
            refine lv_aload_n hx hb d_PG_work_34 rfl (lv_at hl 0 rfl) ?_
            refine gf_PG_21 X hW  d_PG_work_35 ?_
            refine gc_iV (As := []) (b := ad 24) (rest := []) X cw_PG_114 (C_Gat_entriesLeft l (a := sWk a i) (x := x1) (o := o) (v := v)) hW hS (gW_recv (ci := 5) (fs := gf5 ad) hK hW (by omega) (fun σ τ => ge_5 rfl σ τ) (r := (R_Gat, F_Gat, 17)) rfl) ⟨Nat.le_trans (Nat.le_of_ble_eq_true rfl) hR.1, Nat.le_trans (Nat.le_of_ble_eq_true rfl) hR.2⟩ rfl hl.1 rfl (Nat.le_of_ble_eq_true rfl) d_PG_work_38 ⟨Nat.zero_le _, Nat.zero_le _⟩ (fun r t H locs hp hW hS => ?_)
            obtain ⟨rfl, hr9⟩ := hp
            rw [e20, e21, pk_sub hdq] at hr9
            subst hr9
            have hW : gW g A ad np (sWk a i, x1, o) v H := hW
            refine lv_if_le (tgt := 57) hx hb d_PG_work_41 (by decide) (fun h41 => ?_) (fun h41 => ?_)
            · -- 41 t
              have h41 : (nq - hd) ≤ 0 := (nI_leI (a := (nq - hd)) (b := 0) (by omega) (by omega)).mp h41
              refine lv_aload_n hx hb d_PG_work_57 rfl (lv_at hl 0 rfl) ?_
              refine gf_PG_21 X hW  d_PG_work_58 ?_
              refine gf_PG_111 (z := (sWk a i) 0 28) X hW  (gv_0_0_28 _) rfl rfl d_PG_work_61 ?_
              refine lv_iload_n hx hb d_PG_work_64 rfl (lv_at hl 2 rfl) ?_
              refine lv_isub hx hb d_PG_work_65 ?_
              refine hret (((sWk a i) 0 28) - (a 0 28)) ((sWk a i, x1, o), v) _ _ _ _ ?_ hW hS d_PG_work_66
              have e8 : sWk a n = sWk a i := by
                first
                  | (rw [show n = i by omega])
                  | (have h9 := sWk_stop (a := a) (i := i) (by rw [cn_of e20 (by omega), cn_of e21 (by omega)]; omega) (n - i)
                     rw [show i + (n - i) = n by omega] at h9
                     exact h9)
              have e10 : sWo a (nI n) = sWk a i := by unfold sWo; rw [if_pos e9, nI_clamp (by omega), e8]
              refine ⟨by unfold rWk; rw [if_pos e9, nI_clamp (by omega), e8], ?_⟩
              rw [e10]
              exact ⟨x1, rfl, hx1⟩
            · -- 41 f
              have h41 : 0 < (nq - hd) := Nat.lt_of_not_le fun q => h41 ((nI_leI (a := (nq - hd)) (b := 0) (by omega) (by omega)).mpr q)
              have hlt : cn (sWk a i) 20 < cn (sWk a i) 21 := by rw [cn_of e20 (by omega), cn_of e21 (by omega)]; omega
              refine lv_aload_n hx hb d_PG_work_44 rfl (lv_at hl 0 rfl) ?_
              refine gf_PG_21 X hW  d_PG_work_45 ?_
              refine gc_vV (As := []) (b := ad 24) (rest := []) X cw_PG_118 (C_Gat_handleEntry l (a := sWk a i) (x := x1) (o := o) (v := v) hwi hx1 hgi hlt) hW hS (gW_recv (ci := 5) (fs := gf5 ad) hK hW (by omega) (fun σ τ => ge_5 rfl σ τ) (r := (R_Gat, F_Gat, 17)) rfl) ⟨Nat.le_trans (Nat.le_of_ble_eq_true rfl) hR.1, Nat.le_trans (Nat.le_of_ble_eq_true rfl) hR.2⟩ rfl hl.1 rfl (Nat.le_of_ble_eq_true rfl) d_PG_work_48 ⟨Nat.zero_le _, Nat.zero_le _⟩ (fun t H locs hp hW hS => ?_)
              obtain ⟨x', rfl, hwx2⟩ := hp
              have hW : gW g A ad np (sH (sWk a i), x', o) v H := hW
              refine lv_iinc (v := nI (i + 1)) (k := 3) hx hb d_PG_work_51 hl rfl (nI_inc i) (by decide) rfl (fun ls hl => ?_)
              have hl : lv_has ls 4 [(3, .int (nI (i + 1))), (0, .ref (ad 0)), (1, .int (nI n)), (2, .int (a 0 28))] := hl
              refine lv_goto (tgt := 29) hx hb d_PG_work_54 (by decide) ?_
              have e9 : sWk a (i + 1) = sH (sWk a i) := if_pos hlt
              exact ih29 (i + 1) x' _ _ _ (by omega) (by rw [e9]; exact hwx2) (by omega) (lv_sub hl [1, 2, 3, 0] rfl) (by rw [e9]; exact hW) hS
      exact lp29 _ 0 x _ _ _ (Nat.zero_le _) hwx (Nat.lt_succ_self _) (lv_sub hl [2, 3, 1, 0] rfl) hW hS
    · -- 14 f
      have h14 : (sIn w1 1 10) = false := bI_0 h14
      refine lv_iconst (v := (-1)) hx hb d_PG_work_17 (by decide) ?_
      refine hret (-1) ((a, x, o), v) _ _ _ _ ?_ hW hS d_PG_work_18
      have e9 : pWk a w1 = false := by
        unfold pWk
        first
          | (rw [decide_eq_false (not_not_intro h4)]; rfl)
          | (rw [h14, Bool.and_false])
      refine ⟨by unfold rWk; rw [if_neg (by rw [e9]; decide)], ?_⟩
      have e10 : sWo a w1 = a := by unfold sWo; rw [if_neg (by rw [e9]; decide)]
      rw [e10]
      exact ⟨x, rfl, hwx⟩
theorem C_PG_work (l : Launch) {g : gG} {A : Nat → Prop} {ad : Nat → Nat} {np : Nat} {a x : gA} {o : gL} {v : gS} {w1 : Int32} (hw : WFw np a) (hwx : WX np a x) (hg : WFg np a) : CtI l y_PG_work b_PG_work 4 .int 5 [.ref (ad 0), .int w1] g A ad np (a, x, o) v (fun r t => r = rWk a w1 ∧ ∃ x', t = ((sWo a w1, x', o), v) ∧ WX np (sWo a w1) x') := mkI (by decide) rfl (Nat.le_of_ble_eq_true rfl) (fun _ _ _ => rfl) (B_PG_work l hw hwx hg)

set_option maxHeartbeats 400000 in
set_option maxRecDepth 20000 in
theorem B_PG_crash (l : Launch) {g : gG} {A : Nat → Prop} {ad : Nat → Nat} {np : Nat} {a x : gA} {o : gL} {v : gS} (hnp : np ≤ 32) (hwx : WX np a x) (hg : WFg np a) : BdI l b_PG_crash 1 R_PG 3 [.ref (ad 0)] g A ad np (a, x, o) v (fun r t => r = rCr a ∧ ∃ x', t = ((sCra a, x', o), v) ∧ WX np (sCra a) x') := by
  intro p e R s m args below meth c Q ls X hW hS hR hl hret
  have hx := X.1.1
  have hb := X.1.2.1
  have hml := X.1.2.2.1
  have hown := X.1.2.2.2.1
  have hts := X.1.2.2.2.2
  have hK := X.2.1
  have hl : lv_has ls 1 [(0, .ref (ad 0))] := hl
  refine lv_aload_n hx hb d_PG_crash_0 rfl (lv_at hl 0 rfl) ?_
  refine gf_PG_34 (z := a 0 13) X hW  (gv_0_0_13 _) rfl rfl d_PG_crash_1 ?_
  refine lv_if_ne (tgt := 9) hx hb d_PG_crash_4 (by decide) (fun h4 => ?_) (fun h4 => ?_)
  · -- 4 t
    refine lv_aload_n hx hb d_PG_crash_9 rfl (lv_at hl 0 rfl) ?_
    refine gf_PG_21 X hW  d_PG_crash_10 ?_
    refine gc_iV (As := []) (b := ad 24) (rest := []) X cw_PG_121 (C_Gat_fallBack l (a := a) (x := x) (o := o) (v := v) hnp hwx hg) hW hS (gW_recv (ci := 5) (fs := gf5 ad) hK hW (by omega) (fun σ τ => ge_5 rfl σ τ) (r := (R_Gat, F_Gat, 17)) rfl) ⟨Nat.le_trans (Nat.le_of_ble_eq_true rfl) hR.1, Nat.le_trans (Nat.le_of_ble_eq_true rfl) hR.2⟩ rfl hl.1 rfl (Nat.le_of_ble_eq_true rfl) d_PG_crash_13 ⟨Nat.zero_le _, Nat.zero_le _⟩ (fun r t H locs hp hW hS => ?_)
    obtain ⟨rfl, x', rfl, hwx2⟩ := hp
    have hW : gW g A ad np (sCr a, x', o) v H := hW
    refine hret (a 0 33) ((sCr a, x', o), v) _ _ _ _ ?_ hW hS d_PG_crash_16
    unfold rCr sCra
    rw [if_neg h4, if_neg h4]
    exact ⟨rfl, x', rfl, hwx2⟩
  · -- 4 f
    refine lv_iconst (v := (-1)) hx hb d_PG_crash_7 (by decide) ?_
    refine hret (-1) ((a, x, o), v) _ _ _ _ ?_ hW hS d_PG_crash_8
    unfold rCr sCra
    rw [if_pos h4, if_pos h4]
    exact ⟨rfl, x, rfl, hwx⟩
theorem C_PG_crash (l : Launch) {g : gG} {A : Nat → Prop} {ad : Nat → Nat} {np : Nat} {a x : gA} {o : gL} {v : gS} (hnp : np ≤ 32) (hwx : WX np a x) (hg : WFg np a) : CtI l y_PG_crash b_PG_crash 1 .int 3 [.ref (ad 0)] g A ad np (a, x, o) v (fun r t => r = rCr a ∧ ∃ x', t = ((sCra a, x', o), v) ∧ WX np (sCra a) x') := mkI (by decide) rfl (Nat.le_of_ble_eq_true rfl) (fun _ _ _ => rfl) (B_PG_crash l hnp hwx hg)

set_option maxHeartbeats 400000 in
set_option maxRecDepth 20000 in
theorem B_PG_allowed (l : Launch) {g : gG} {A : Nat → Prop} {ad : Nat → Nat} {np : Nat} {a x : gA} {o : gL} {v : gS} {w1 : Int32} (hw : WFw np a) : BdI l b_PG_allowed 2 R_PG 3 [.ref (ad 0), .int w1] g A ad np (a, x, o) v (fun r t => t = ((a, x, o), v) ∧ r = bI (sIs a w1 && sAlw a w1.toNatClampNeg)) := by
  intro p e R s m args below meth c Q ls X hW hS hR hl hret
  have hx := X.1.1
  have hb := X.1.2.1
  have hml := X.1.2.2.1
  have hown := X.1.2.2.2.1
  have hts := X.1.2.2.2.2
  have hK := X.2.1
  have hl : lv_has ls 2 [(0, .ref (ad 0)), (1, .int w1)] := hl
  have hnp := hw.1
  have hpc := hw.2.1
  refine lv_aload_n hx hb d_PG_allowed_0 rfl (lv_at hl 0 rfl) ?_
  refine gf_PG_10 X hW  d_PG_allowed_1 ?_
  refine lv_iload_n hx hb d_PG_allowed_4 rfl (lv_at hl 1 rfl) ?_
  refine gc_iV (As := [.int w1]) (b := ad 1) (rest := []) X cw_PG_65 (C_Web_isPage l (w := w1)) hW hS (gW_recv (ci := 1) (fs := gf1 ad) hK hW (by omega) (fun σ τ => ge_1 rfl σ τ) (r := (R_Web, F_Web, 4)) rfl) ⟨Nat.le_trans (Nat.le_of_ble_eq_true rfl) hR.1, Nat.le_trans (Nat.le_of_ble_eq_true rfl) hR.2⟩ rfl hl.1 rfl (Nat.le_of_ble_eq_true rfl) d_PG_allowed_5 ⟨Nat.zero_le _, Nat.zero_le _⟩ (fun r t H locs hp hW hS => ?_)
  obtain ⟨rfl, rfl⟩ := hp
  have hW : gW g A ad np (a, x, o) v H := hW
  refine lv_if_eq (tgt := 26) hx hb d_PG_allowed_8 (by decide) (fun h8 => ?_) (fun h8 => ?_)
  · -- 8 t
    have h8 : (sIs a w1) = false := bI_0 h8
    refine lv_iconst (v := 0) hx hb d_PG_allowed_26 (by decide) ?_
    refine hret 0 ((a, x, o), v) _ _ _ _ ?_ hW hS d_PG_allowed_27
    first | exact ⟨rfl, by rw [nI_clamp (by omega), h19, Bool.and_false]; rfl⟩ | exact ⟨rfl, by rw [h8]; rfl⟩
  · -- 8 f
    have h8 : (sIs a w1) = true := bI_n0 h8
    obtain ⟨P, hP, rfl⟩ := sIs_of hpc hnp h8
    refine lv_aload_n hx hb d_PG_allowed_11 rfl (lv_at hl 0 rfl) ?_
    refine gf_PG_10 X hW  d_PG_allowed_12 ?_
    refine lv_iload_n hx hb d_PG_allowed_15 rfl (lv_at hl 1 rfl) ?_
    refine gc_iV (As := [.int (nI P)]) (b := ad 1) (rest := []) X cw_PG_124 (C_Web_isAllowed l (a := a) (x := x) (o := o) (v := v) hw hP) hW hS (gW_recv (ci := 1) (fs := gf1 ad) hK hW (by omega) (fun σ τ => ge_1 rfl σ τ) (r := (R_Web, F_Web, 4)) rfl) ⟨Nat.le_trans (Nat.le_of_ble_eq_true rfl) hR.1, Nat.le_trans (Nat.le_of_ble_eq_true rfl) hR.2⟩ rfl hl.1 rfl (Nat.le_of_ble_eq_true rfl) d_PG_allowed_16 ⟨Nat.zero_le _, Nat.zero_le _⟩ (fun r t H locs hp hW hS => ?_)
    obtain ⟨rfl, rfl⟩ := hp
    have hW : gW g A ad np (a, x, o) v H := hW
    refine lv_if_eq (tgt := 26) hx hb d_PG_allowed_19 (by decide) (fun h19 => ?_) (fun h19 => ?_)
    · -- 19 t
      have h19 : (sAlw a P) = false := bI_0 h19
      refine lv_iconst (v := 0) hx hb d_PG_allowed_26 (by decide) ?_
      refine hret 0 ((a, x, o), v) _ _ _ _ ?_ hW hS d_PG_allowed_27
      first | exact ⟨rfl, by rw [nI_clamp (by omega), h19, Bool.and_false]; rfl⟩ | exact ⟨rfl, by rw [h8]; rfl⟩
    · -- 19 f
      have h19 : (sAlw a P) = true := bI_n0 h19
      refine lv_iconst (v := 1) hx hb d_PG_allowed_22 (by decide) ?_
      refine lv_goto (tgt := 27) hx hb d_PG_allowed_23 (by decide) ?_
      refine hret 1 ((a, x, o), v) _ _ _ _ ?_ hW hS d_PG_allowed_27
      exact ⟨rfl, by rw [h8, nI_clamp (by omega), h19]; rfl⟩
theorem C_PG_allowed (l : Launch) {g : gG} {A : Nat → Prop} {ad : Nat → Nat} {np : Nat} {a x : gA} {o : gL} {v : gS} {w1 : Int32} (hw : WFw np a) : CtI l y_PG_allowed b_PG_allowed 2 .boolean 3 [.ref (ad 0), .int w1] g A ad np (a, x, o) v (fun r t => t = ((a, x, o), v) ∧ r = bI (sIs a w1 && sAlw a w1.toNatClampNeg)) := mkI (by decide) rfl (Nat.le_of_ble_eq_true rfl) (fun r t h => h.2 ▸ bI_nar _) (B_PG_allowed l hw)

set_option maxHeartbeats 400000 in
set_option maxRecDepth 20000 in
theorem B_PG_found (l : Launch) {g : gG} {A : Nat → Prop} {ad : Nat → Nat} {np : Nat} {a x : gA} {o : gL} {v : gS} {w1 : Int32} (hw : WFw np a) (hwx : WX np a x) (hg : WFg np a) : BdI l b_PG_found 2 R_PG 4 [.ref (ad 0), .int w1] g A ad np (a, x, o) v (fun r t => t = ((a, x, o), v) ∧ r = rFo a w1) := by
  intro p e R s m args below meth c Q ls X hW hS hR hl hret
  have hx := X.1.1
  have hb := X.1.2.1
  have hml := X.1.2.2.1
  have hown := X.1.2.2.2.1
  have hts := X.1.2.2.2.2
  have hK := X.2.1
  have hl : lv_has ls 2 [(0, .ref (ad 0)), (1, .int w1)] := hl
  have hnp := hw.1
  have hpc := hw.2.1
  obtain ⟨hd, nq, nf, ng, mh, mq, mf, mg, hp0, -, -, -, -, -, -, -, -, -, e15, hp4, -⟩ := hg
  refine lv_aload_n hx hb d_PG_found_0 rfl (lv_at hl 0 rfl) ?_
  refine gf_PG_34 (z := a 0 13) X hW  (gv_0_0_13 _) rfl rfl d_PG_found_1 ?_
  refine lv_if_eq (tgt := 18) hx hb d_PG_found_4 (by decide) (fun h4 => ?_) (fun h4 => ?_)
  · -- 4 t
    refine lv_iconst (v := (-1)) hx hb d_PG_found_18 (by decide) ?_
    refine hret (-1) ((a, x, o), v) _ _ _ _ ?_ hW hS d_PG_found_19
    exact ⟨rfl, by unfold rFo; rw [if_pos (by first | exact Or.inl h4 | exact Or.inr h15)]⟩
  · -- 4 f
    refine lv_aload_n hx hb d_PG_found_7 rfl (lv_at hl 0 rfl) ?_
    refine gf_PG_10 X hW  d_PG_found_8 ?_
    refine lv_iload_n hx hb d_PG_found_11 rfl (lv_at hl 1 rfl) ?_
    refine gc_iV (As := [.int w1]) (b := ad 1) (rest := []) X cw_PG_65 (C_Web_isPage l (w := w1)) hW hS (gW_recv (ci := 1) (fs := gf1 ad) hK hW (by omega) (fun σ τ => ge_1 rfl σ τ) (r := (R_Web, F_Web, 4)) rfl) ⟨Nat.le_trans (Nat.le_of_ble_eq_true rfl) hR.1, Nat.le_trans (Nat.le_of_ble_eq_true rfl) hR.2⟩ rfl hl.1 rfl (Nat.le_of_ble_eq_true rfl) d_PG_found_12 ⟨Nat.zero_le _, Nat.zero_le _⟩ (fun r t H locs hp hW hS => ?_)
    obtain ⟨rfl, rfl⟩ := hp
    have hW : gW g A ad np (a, x, o) v H := hW
    refine lv_if_ne (tgt := 20) hx hb d_PG_found_15 (by decide) (fun h15 => ?_) (fun h15 => ?_)
    · -- 15 t
      have h15 : (sIs a w1) = true := bI_n0 h15
      have h15a := h15
      obtain ⟨P, hP, rfl⟩ := sIs_of hpc hnp h15
      refine lv_aload_n hx hb d_PG_found_20 rfl (lv_at hl 0 rfl) ?_
      refine gf_PG_21 X hW  d_PG_found_21 ?_
      refine lv_iload_n hx hb d_PG_found_24 rfl (lv_at hl 1 rfl) ?_
      refine lv_iconst (v := 0) hx hb d_PG_found_25 (by decide) ?_
      refine gc_iV (As := [.int (nI P), .int 0]) (b := ad 24) (rest := []) X cw_PG_127 (C_Gat_chase0 l (a := a) (x := x) (o := o) (v := v) (P := P) hw hwx e15 hp4 hP) hW hS (gW_recv (ci := 5) (fs := gf5 ad) hK hW (by omega) (fun σ τ => ge_5 rfl σ τ) (r := (R_Gat, F_Gat, 17)) rfl) ⟨Nat.le_trans (Nat.le_of_ble_eq_true rfl) hR.1, Nat.le_trans (Nat.le_of_ble_eq_true rfl) hR.2⟩ rfl hl.1 rfl (Nat.le_of_ble_eq_true rfl) d_PG_found_26 ⟨Nat.zero_le _, Nat.zero_le _⟩ (fun r t H locs hp hW hS => ?_)
      obtain ⟨rfl, rfl⟩ := hp
      have hW : gW g A ad np (a, x, o) v H := hW
      refine hret (sC2 a (hp0 + 1) P) ((a, x, o), v) _ _ _ _ ?_ hW hS d_PG_found_29
      exact ⟨rfl, by unfold rFo; rw [if_neg (fun q => q.elim h4 (fun z => by rw [h15a] at z; cases z)), cn_of e15 (by omega), nI_clamp (by omega)]⟩
    · -- 15 f
      have h15 : (sIs a w1) = false := bI_0 h15
      refine lv_iconst (v := (-1)) hx hb d_PG_found_18 (by decide) ?_
      refine hret (-1) ((a, x, o), v) _ _ _ _ ?_ hW hS d_PG_found_19
      exact ⟨rfl, by unfold rFo; rw [if_pos (by first | exact Or.inl h4 | exact Or.inr h15)]⟩
theorem C_PG_found (l : Launch) {g : gG} {A : Nat → Prop} {ad : Nat → Nat} {np : Nat} {a x : gA} {o : gL} {v : gS} {w1 : Int32} (hw : WFw np a) (hwx : WX np a x) (hg : WFg np a) : CtI l y_PG_found b_PG_found 2 .int 4 [.ref (ad 0), .int w1] g A ad np (a, x, o) v (fun r t => t = ((a, x, o), v) ∧ r = rFo a w1) := mkI (by decide) rfl (Nat.le_of_ble_eq_true rfl) (fun _ _ _ => rfl) (B_PG_found l hw hwx hg)

set_option maxHeartbeats 400000 in
set_option maxRecDepth 20000 in
theorem B_PG_clock (l : Launch) {g : gG} {A : Nat → Prop} {ad : Nat → Nat} {np : Nat} {a x : gA} {o : gL} {v : gS}  : BdI l b_PG_clock 1 R_PG 0 [.ref (ad 0)] g A ad np (a, x, o) v (fun r t => t = ((a, x, o), v) ∧ r = if a 0 13 = 0 then 0 else a 0 26) := by
  intro p e R s m args below meth c Q ls X hW hS hR hl hret
  have hx := X.1.1
  have hb := X.1.2.1
  have hml := X.1.2.2.1
  have hown := X.1.2.2.2.1
  have hts := X.1.2.2.2.2
  have hK := X.2.1
  have hl : lv_has ls 1 [(0, .ref (ad 0))] := hl
  refine lv_aload_n hx hb d_PG_clock_0 rfl (lv_at hl 0 rfl) ?_
  refine gf_PG_34 (z := a 0 13) X hW  (gv_0_0_13 _) rfl rfl d_PG_clock_1 ?_
  refine lv_if_eq (tgt := 17) hx hb d_PG_clock_4 (by decide) (fun h4 => ?_) (fun h4 => ?_)
  · -- 4 t
    refine lv_iconst (v := 0) hx hb d_PG_clock_17 (by decide) ?_
    refine hret 0 ((a, x, o), v) _ _ _ _ ?_ hW hS d_PG_clock_18
    first | exact ⟨rfl, by rw [if_pos h4]⟩ | exact ⟨rfl, by rw [if_neg h4]⟩
  · -- 4 f
    refine lv_aload_n hx hb d_PG_clock_7 rfl (lv_at hl 0 rfl) ?_
    refine gf_PG_21 X hW  d_PG_clock_8 ?_
    refine gf_PG_131 (z := a 0 26) X hW  (gv_0_0_26 _) rfl rfl d_PG_clock_11 ?_
    refine lv_goto (tgt := 18) hx hb d_PG_clock_14 (by decide) ?_
    refine hret (a 0 26) ((a, x, o), v) _ _ _ _ ?_ hW hS d_PG_clock_18
    first | exact ⟨rfl, by rw [if_pos h4]⟩ | exact ⟨rfl, by rw [if_neg h4]⟩
theorem C_PG_clock (l : Launch) {g : gG} {A : Nat → Prop} {ad : Nat → Nat} {np : Nat} {a x : gA} {o : gL} {v : gS}  : CtI l y_PG_clock b_PG_clock 1 .int 0 [.ref (ad 0)] g A ad np (a, x, o) v (fun r t => t = ((a, x, o), v) ∧ r = if a 0 13 = 0 then 0 else a 0 26) := mkI (by decide) rfl (Nat.le_of_ble_eq_true rfl) (fun _ _ _ => rfl) (B_PG_clock l )

set_option maxHeartbeats 400000 in
set_option maxRecDepth 20000 in
theorem B_PG_fetches (l : Launch) {g : gG} {A : Nat → Prop} {ad : Nat → Nat} {np : Nat} {a x : gA} {o : gL} {v : gS}  : BdI l b_PG_fetches 1 R_PG 0 [.ref (ad 0)] g A ad np (a, x, o) v (fun r t => t = ((a, x, o), v) ∧ r = if a 0 13 = 0 then 0 else a 0 28) := by
  intro p e R s m args below meth c Q ls X hW hS hR hl hret
  have hx := X.1.1
  have hb := X.1.2.1
  have hml := X.1.2.2.1
  have hown := X.1.2.2.2.1
  have hts := X.1.2.2.2.2
  have hK := X.2.1
  have hl : lv_has ls 1 [(0, .ref (ad 0))] := hl
  refine lv_aload_n hx hb d_PG_fetches_0 rfl (lv_at hl 0 rfl) ?_
  refine gf_PG_34 (z := a 0 13) X hW  (gv_0_0_13 _) rfl rfl d_PG_fetches_1 ?_
  refine lv_if_eq (tgt := 17) hx hb d_PG_fetches_4 (by decide) (fun h4 => ?_) (fun h4 => ?_)
  · -- 4 t
    refine lv_iconst (v := 0) hx hb d_PG_fetches_17 (by decide) ?_
    refine hret 0 ((a, x, o), v) _ _ _ _ ?_ hW hS d_PG_fetches_18
    first | exact ⟨rfl, by rw [if_pos h4]⟩ | exact ⟨rfl, by rw [if_neg h4]⟩
  · -- 4 f
    refine lv_aload_n hx hb d_PG_fetches_7 rfl (lv_at hl 0 rfl) ?_
    refine gf_PG_21 X hW  d_PG_fetches_8 ?_
    refine gf_PG_111 (z := a 0 28) X hW  (gv_0_0_28 _) rfl rfl d_PG_fetches_11 ?_
    refine lv_goto (tgt := 18) hx hb d_PG_fetches_14 (by decide) ?_
    refine hret (a 0 28) ((a, x, o), v) _ _ _ _ ?_ hW hS d_PG_fetches_18
    first | exact ⟨rfl, by rw [if_pos h4]⟩ | exact ⟨rfl, by rw [if_neg h4]⟩
theorem C_PG_fetches (l : Launch) {g : gG} {A : Nat → Prop} {ad : Nat → Nat} {np : Nat} {a x : gA} {o : gL} {v : gS}  : CtI l y_PG_fetches b_PG_fetches 1 .int 0 [.ref (ad 0)] g A ad np (a, x, o) v (fun r t => t = ((a, x, o), v) ∧ r = if a 0 13 = 0 then 0 else a 0 28) := mkI (by decide) rfl (Nat.le_of_ble_eq_true rfl) (fun _ _ _ => rfl) (B_PG_fetches l )

set_option maxHeartbeats 400000 in
set_option maxRecDepth 20000 in
theorem B_PG_waiting (l : Launch) {g : gG} {A : Nat → Prop} {ad : Nat → Nat} {np : Nat} {a x : gA} {o : gL} {v : gS}  : BdI l b_PG_waiting 1 R_PG 1 [.ref (ad 0)] g A ad np (a, x, o) v (fun r t => t = ((a, x, o), v) ∧ r = if a 0 13 = 0 then 0 else a 0 21 - a 0 20) := by
  intro p e R s m args below meth c Q ls X hW hS hR hl hret
  have hx := X.1.1
  have hb := X.1.2.1
  have hml := X.1.2.2.1
  have hown := X.1.2.2.2.1
  have hts := X.1.2.2.2.2
  have hK := X.2.1
  have hl : lv_has ls 1 [(0, .ref (ad 0))] := hl
  refine lv_aload_n hx hb d_PG_waiting_0 rfl (lv_at hl 0 rfl) ?_
  refine gf_PG_34 (z := a 0 13) X hW  (gv_0_0_13 _) rfl rfl d_PG_waiting_1 ?_
  refine lv_if_eq (tgt := 17) hx hb d_PG_waiting_4 (by decide) (fun h4 => ?_) (fun h4 => ?_)
  · -- 4 t
    refine lv_iconst (v := 0) hx hb d_PG_waiting_17 (by decide) ?_
    refine hret 0 ((a, x, o), v) _ _ _ _ ?_ hW hS d_PG_waiting_18
    first | exact ⟨rfl, by rw [if_pos h4]⟩ | exact ⟨rfl, by rw [if_neg h4]⟩
  · -- 4 f
    refine lv_aload_n hx hb d_PG_waiting_7 rfl (lv_at hl 0 rfl) ?_
    refine gf_PG_21 X hW  d_PG_waiting_8 ?_
    refine gc_iV (As := []) (b := ad 24) (rest := []) X cw_PG_114 (C_Gat_entriesLeft l (a := a) (x := x) (o := o) (v := v)) hW hS (gW_recv (ci := 5) (fs := gf5 ad) hK hW (by omega) (fun σ τ => ge_5 rfl σ τ) (r := (R_Gat, F_Gat, 17)) rfl) ⟨Nat.le_trans (Nat.le_of_ble_eq_true rfl) hR.1, Nat.le_trans (Nat.le_of_ble_eq_true rfl) hR.2⟩ rfl hl.1 rfl (Nat.le_of_ble_eq_true rfl) d_PG_waiting_11 ⟨Nat.zero_le _, Nat.zero_le _⟩ (fun r t H locs hp hW hS => ?_)
    obtain ⟨rfl, rfl⟩ := hp
    have hW : gW g A ad np (a, x, o) v H := hW
    refine lv_goto (tgt := 18) hx hb d_PG_waiting_14 (by decide) ?_
    refine hret (a 0 21 - a 0 20) ((a, x, o), v) _ _ _ _ ?_ hW hS d_PG_waiting_18
    first | exact ⟨rfl, by rw [if_pos h4]⟩ | exact ⟨rfl, by rw [if_neg h4]⟩
theorem C_PG_waiting (l : Launch) {g : gG} {A : Nat → Prop} {ad : Nat → Nat} {np : Nat} {a x : gA} {o : gL} {v : gS}  : CtI l y_PG_waiting b_PG_waiting 1 .int 1 [.ref (ad 0)] g A ad np (a, x, o) v (fun r t => t = ((a, x, o), v) ∧ r = if a 0 13 = 0 then 0 else a 0 21 - a 0 20) := mkI (by decide) rfl (Nat.le_of_ble_eq_true rfl) (fun _ _ _ => rfl) (B_PG_waiting l )

set_option maxHeartbeats 400000 in
set_option maxRecDepth 20000 in
theorem B_PG_corpusAt (l : Launch) {g : gG} {A : Nat → Prop} {ad : Nat → Nat} {np : Nat} {a x : gA} {o : gL} {v : gS} {w1 : Int32} (hnp : np ≤ 32) (hg : WFg np a) : BdI l b_PG_corpusAt 2 R_PG 1 [.ref (ad 0), .int w1] g A ad np (a, x, o) v (fun r t => t = ((a, x, o), v) ∧ r = rAt a w1) := by
  intro p e R s m args below meth c Q ls X hW hS hR hl hret
  have hx := X.1.1
  have hb := X.1.2.1
  have hml := X.1.2.2.1
  have hown := X.1.2.2.2.1
  have hts := X.1.2.2.2.2
  have hK := X.2.1
  have hl : lv_has ls 2 [(0, .ref (ad 0)), (1, .int w1)] := hl
  obtain ⟨hd, nq, nf, ng, mh, mq, mf, mg, hp0, -, -, -, e25, -, -, -, -, -, -, -, -, -, -, -, -, -, -, -, d15⟩ := hg
  have hng := dst_le d15 hnp
  refine lv_aload_n hx hb d_PG_corpusAt_0 rfl (lv_at hl 0 rfl) ?_
  refine gf_PG_34 (z := a 0 13) X hW  (gv_0_0_13 _) rfl rfl d_PG_corpusAt_1 ?_
  refine lv_if_eq (tgt := 21) hx hb d_PG_corpusAt_4 (by decide) (fun h4 => ?_) (fun h4 => ?_)
  · -- 4 t
    refine lv_iconst (v := (-1)) hx hb d_PG_corpusAt_21 (by decide) ?_
    refine hret (-1) ((a, x, o), v) _ _ _ _ ?_ hW hS d_PG_corpusAt_22
    unfold rAt
    first | exact ⟨rfl, by rw [if_pos h4]⟩ | exact ⟨rfl, by rw [if_neg h4]⟩
  · -- 4 f
    refine lv_aload_n hx hb d_PG_corpusAt_7 rfl (lv_at hl 0 rfl) ?_
    refine gf_PG_21 X hW  d_PG_corpusAt_8 ?_
    refine gf_PG_134 X hW  d_PG_corpusAt_11 ?_
    refine lv_iload_n hx hb d_PG_corpusAt_14 rfl (lv_at hl 1 rfl) ?_
    refine gc_iV (As := [.int w1]) (b := ad 31) (rest := []) X cw_PG_137 (C_Row_at l (u := (a, x, o)) (v := v) (x := w1) (n := ng) (f := a 15) (gRow_31 np) e25 (by omega) (fun i _ => rfl)) hW hS (gW_recv (ci := 3) (fs := gf3 ad 31) hK hW (by omega) (fun σ τ => ge_3 rfl σ τ) (r := (R_Row, F_Row, 2)) rfl) ⟨Nat.le_trans (Nat.le_of_ble_eq_true rfl) hR.1, Nat.le_trans (Nat.le_of_ble_eq_true rfl) hR.2⟩ rfl hl.1 rfl (Nat.le_of_ble_eq_true rfl) d_PG_corpusAt_15 ⟨Nat.zero_le _, Nat.zero_le _⟩ (fun r t H locs hp hW hS => ?_)
    obtain ⟨rfl, hr9⟩ := hp
    rw [← e25] at hr9
    subst hr9
    have hW : gW g A ad np (a, x, o) v H := hW
    refine lv_goto (tgt := 22) hx hb d_PG_corpusAt_18 (by decide) ?_
    refine hret (if 0 ≤ w1 ∧ w1 < a 0 25 then a 15 w1.toNatClampNeg else -1) ((a, x, o), v) _ _ _ _ ?_ hW hS d_PG_corpusAt_22
    unfold rAt
    first | exact ⟨rfl, by rw [if_pos h4]⟩ | exact ⟨rfl, by rw [if_neg h4]⟩
theorem C_PG_corpusAt (l : Launch) {g : gG} {A : Nat → Prop} {ad : Nat → Nat} {np : Nat} {a x : gA} {o : gL} {v : gS} {w1 : Int32} (hnp : np ≤ 32) (hg : WFg np a) : CtI l y_PG_corpusAt b_PG_corpusAt 2 .int 1 [.ref (ad 0), .int w1] g A ad np (a, x, o) v (fun r t => t = ((a, x, o), v) ∧ r = rAt a w1) := mkI (by decide) rfl (Nat.le_of_ble_eq_true rfl) (fun _ _ _ => rfl) (B_PG_corpusAt l hnp hg)

