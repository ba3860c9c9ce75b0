set_option maxHeartbeats 4000000 in
set_option maxRecDepth 20000 in
theorem B_Web_addPage (l : Launch) {g : gG} {A : Nat → Prop} {ad : Nat → Nat} {np : Nat} {a x : gA} {o : gL} {v : gS} {w1 w2 : Int32} (hw : WFw np a) (h13 : a 0 13 = 0) : BdP l b_Web_addPage 3 R_Web 3 [.ref (ad 1), .int w1, .int w2] g A ad np (a, x, o) v (eP ad np a x o v w1 w2) := by
  intro p e R s m args below meth c Q ls X hW hS hA hO hR hR2 hl hret
  have hx := X.1.1
  have hb := X.1.2.1
  have hml := X.1.2.2.1
  have hown := X.1.2.2.2.1
  have hts := X.1.2.2.2.2
  have hK := X.2.1
  have hl : lv_has ls 3 [(0, .ref (ad 1)), (1, .int w1), (2, .int w2)] := hl
  have hnp := hw.1
  have hpc := hw.2.1
  have hcn : cn a 0 = np := cn_of hpc (by omega)
  have hno : ∀ (H : Heap) (locs : List Loc), pP a w1 w2 = false → gW g A ad np (a, x, o) v H → va_S A s.heap H locs → W p l e R s m args below meth c H locs 0 0 Q (F0 m 35 ls []) := by
    intro H locs hp hW hS
    refine lv_iconst (v := (-1)) hx hb d_Web_addPage_35 (by decide) ?_
    exact W.widen (Nat.zero_le _) (Nat.zero_le _) (hret (-1) (ad, np, (a, x, o), v) _ _ _ _ (eP_no hp) hW hS d_Web_addPage_36)
  have hpe : pP a w1 w2 = (sIn w1 0 5 && (sIn w2 1 999999 && (decide (np < 32) && !sDup a w1 w2 np))) := by
    unfold pP
    rw [hcn, decide_eq_true h13, Bool.true_and]
  refine lv_iload_n hx hb d_Web_addPage_0 rfl (lv_at hl 1 rfl) ?_
  refine gc_iSN (As := [.int w1]) (rest := []) X cw_Web_37 (C_PG_isHost l) hW hS ⟨by omega, by omega⟩ rfl hl.1 rfl (Nat.le_of_ble_eq_true rfl) d_Web_addPage_1 ⟨by omega, by omega⟩ (fun r t H locs hp hW hS => ?_)
  obtain ⟨rfl, rfl⟩ := hp
  have hW : gW g A ad np (a, x, o) v H := hW
  refine lv_if_eq (tgt := 35) hx hb d_Web_addPage_4 (by decide) (fun h => ?_) (fun h4 => ?_)
  · exact hno _ _ (by rw [hpe, bI_0 h]; rfl) hW hS
  have h4 := bI_n0 h4
  refine lv_iload_n hx hb d_Web_addPage_7 rfl (lv_at hl 2 rfl) ?_
  refine lv_iconst (v := 1) hx hb d_Web_addPage_8 (by decide) ?_
  refine lv_ldc (v := 999999) hx hb hown (hts _ w_Web_const_41) d_Web_addPage_9 ?_
  refine gc_iSN (As := [.int w2, .int 1, .int 999999]) (rest := []) X cw_Web_42 (C_PG_isWithin l) hW hS ⟨by omega, by omega⟩ rfl hl.1 rfl (Nat.le_of_ble_eq_true rfl) d_Web_addPage_11 ⟨by omega, by omega⟩ (fun r t H locs hp hW hS => ?_)
  obtain ⟨rfl, rfl⟩ := hp
  have hW : gW g A ad np (a, x, o) v H := hW
  refine lv_if_eq (tgt := 35) hx hb d_Web_addPage_14 (by decide) (fun h => ?_) (fun h14 => ?_)
  · exact hno _ _ (by rw [hpe, h4, bI_0 h]; rfl) hW hS
  have h14 := bI_n0 h14
  refine lv_aload_n hx hb d_Web_addPage_17 rfl (lv_at hl 0 rfl) ?_
  refine gf_Web_33 (z := nI np) X hW (gv_0_0_0 _) rfl hpc d_Web_addPage_18 ?_
  refine lv_bipush (v := 32) hx hb d_Web_addPage_21 (by decide) ?_
  refine lv_icmp_ge (tgt := 35) hx hb d_Web_addPage_23 (by decide) (fun h => ?_) (fun h23 => ?_)
  · have h : 32 ≤ np := (nI_leI (a := 32) (b := np) (by omega) (by omega)).mp h
    exact hno _ _ (by rw [hpe, h4, h14, decide_eq_false (by omega)]; rfl) hW hS
  have h23 : np < 32 := Nat.lt_of_not_le fun q => h23 ((nI_leI (a := 32) (b := np) (by omega) (by omega)).mpr q)
  refine lv_aload_n hx hb d_Web_addPage_26 rfl (lv_at hl 0 rfl) ?_
  refine lv_iload_n hx hb d_Web_addPage_27 rfl (lv_at hl 1 rfl) ?_
  refine lv_iload_n hx hb d_Web_addPage_28 rfl (lv_at hl 2 rfl) ?_
  refine gc_iV (b := ad 1) (As := [.int w1, .int w2]) (rest := []) X cw_Web_46 (C_Web_isTaken l hw) hW hS (gW_recv (ci := 1) (fs := gf1 ad) hK hW (by omega) (fun σ τ => ge_1 rfl σ τ) (r := (R_Web, F_Web, 4)) rfl) ⟨by omega, by omega⟩ rfl hl.1 rfl (Nat.le_of_ble_eq_true rfl) d_Web_addPage_29 ⟨by omega, by omega⟩ (fun r t H locs hp hW hS => ?_)
  obtain ⟨rfl, rfl⟩ := hp
  have hW : gW g A ad np (a, x, o) v H := hW
  refine lv_if_eq (tgt := 37) hx hb d_Web_addPage_32 (by decide) (fun h32 => ?_) (fun h => ?_)
  case' refine_2 => exact hno _ _ (by rw [hpe, h4, h14, decide_eq_true h23, bI_n0 h]; rfl) hW hS
  have h32 := bI_0 h32
  have hp : pP a w1 w2 = true := by rw [hpe, h4, h14, decide_eq_true h23, h32]; rfl
  refine lv_aload_n hx hb d_Web_addPage_37 rfl (lv_at hl 0 rfl) ?_
  refine gf_Web_11 X hW d_Web_addPage_38 ?_
  refine lv_aload_n hx hb d_Web_addPage_41 rfl (lv_at hl 0 rfl) ?_
  refine gf_Web_33 (z := nI np) X hW (gv_0_0_0 _) rfl hpc d_Web_addPage_42 ?_
  obtain ⟨σ, τ, hP, hD, h3, h4', h5⟩ := hW
  refine nw_Web_9 X ⟨hP, hD⟩ hS hA (by omega) (by omega) d_Web_addPage_45 (fun q0 H hW hS => ?_)
  refine lv_dup hx hb d_Web_addPage_48 rfl ?_
  refine lv_iload_n hx hb d_Web_addPage_49 rfl (lv_at hl 1 rfl) ?_
  refine lv_iload_n hx hb d_Web_addPage_50 rfl (lv_at hl 2 rfl) ?_
  refine n_ctor (As := [.int w1, .int w2]) (rest := [.ref q0, .int (nI np), .ref (ad 2)]) X ci_Web_50 (C_Page_init l (h0 := q0)) hW hS hA hO ⟨by omega, by omega⟩ rfl hl.1 rfl (Nat.le_of_ble_eq_true rfl) d_Web_addPage_51 ⟨by omega, by omega⟩ (fun Z9 H locs hp9 hW hS => ?_)
  obtain ⟨q1, q2, q3, q4, rfl⟩ := hp9
  have hW : nW g A (gw g ad np σ τ ++ gNP g q0 q1 q2 q3 q4 w1 w2) H := hW
  refine va_astq hx hb hK hW.1 hW.2 hS 2 3 ((gw g ad np σ τ).length + 0) 4 (cA := g.2.1 3) (n := 32) (f := fun p => if p < np then some (ad (gp p)) else none) (v := q0) (vs := [.int w1, .int w2, .ref q1, .ref q3, .ref (g.2.2 0), .int (-1)]) (by rw [List.getElem?_append_left (by rw [gw_len]; omega), gw_at (by omega), ge_11]) (r := (R_Page, F_Page, 6)) rfl (nz_at rfl) rfl (vp_in_nI h23 (by decide)) d_Web_addPage_54 (fun H locs hP hD hS => ?_)
  rw [nI_clamp (by omega)] at hP hD
  have hW := gW_grow (x := x) hw h3 h4' h5 ⟨hP, hD⟩
  have hW := gW_r3 np (-2) hW
  have e1 : adX ad np q0 q1 q2 q3 q4 1 = ad 1 := adX_lt (by omega)
  rw [← e1] at hl
  have hpc1 : gu (gu (gu a 1 np w1) 2 np w2) 3 np (-2) 0 0 = nI np := by rw [gu_off (by omega), gu_off (by omega), gu_off (by omega)]; exact hpc
  refine lv_aload_n hx hb d_Web_addPage_55 rfl (lv_at hl 0 rfl) ?_
  refine lv_dup hx hb d_Web_addPage_56 rfl ?_
  refine gf_Web_33 (z := nI np) X hW (gv_0_0_0 _) rfl hpc1 d_Web_addPage_57 ?_
  refine lv_iconst (v := 1) hx hb d_Web_addPage_60 (by decide) ?_
  refine lv_iadd hx hb d_Web_addPage_61 ?_
  rw [show nI np + 1 = nI (np + 1) from (nI_inc np)]
  refine pf_Web_33 (z := nI (np + 1)) X hW hS (gv_0_0_0 _) rfl rfl rfl d_Web_addPage_62 (fun H locs hW hS => ?_)
  have hW : gW g A (adX ad np q0 q1 q2 q3 q4) (np + 1) (gu (gu (gu (gu a 1 np w1) 2 np w2) 3 np (-2)) 0 0 (nI (np + 1)), gu (gu x 0 np 0) 1 np (-1), o) v H := hW
  refine lv_aload_n hx hb d_Web_addPage_65 rfl (lv_at hl 0 rfl) ?_
  refine gf_Web_33 (z := nI (np + 1)) X hW (gv_0_0_0 _) rfl (gu_hit (gu (gu (gu a 1 np w1) 2 np w2) 3 np (-2)) 0 0 (nI (np + 1))) d_Web_addPage_66 ?_
  refine lv_iconst (v := 1) hx hb d_Web_addPage_69 (by decide) ?_
  refine lv_isub hx hb d_Web_addPage_70 ?_
  rw [show nI (np + 1) - 1 = nI np from by rw [← nI_inc np]; exact Int32.add_sub_cancel _ _]
  refine hret (nI np) (adX ad np q0 q1 q2 q3 q4, np + 1, (gu (gu (gu (gu a 1 np w1) 2 np w2) 3 np (-2)) 0 0 (nI (np + 1)), gu (gu x 0 np 0) 1 np (-1), o), v) _ _ _ _ ?_ hW hS d_Web_addPage_71
  unfold eP rP nP sP xP
  rw [hp, hcn]
  exact ⟨rfl, fun k hk => adX_lt (by omega), rfl⟩
theorem C_Web_addPage (l : Launch) {g : gG} {A : Nat → Prop} {ad : Nat → Nat} {np : Nat} {a x : gA} {o : gL} {v : gS} {w1 w2 : Int32} (hw : WFw np a) (h13 : a 0 13 = 0) : CtP l y_Web_addPage b_Web_addPage 3 3 [.ref (ad 1), .int w1, .int w2] g A ad np (a, x, o) v (eP ad np a x o v w1 w2) := mkP (by decide) rfl (Nat.le_of_ble_eq_true rfl) (B_Web_addPage l hw h13)
set_option maxHeartbeats 4000000 in
set_option maxRecDepth 20000 in
theorem B_PG_page (l : Launch) {g : gG} {A : Nat → Prop} {ad : Nat → Nat} {np : Nat} {a x : gA} {o : gL} {v : gS} {w1 w2 : Int32} (hw : WFw np a) : BdP l b_PG_page 3 R_PG 4 [.ref (ad 0), .int w1, .int w2] g A ad np (a, x, o) v (eP ad np a x o v w1 w2) := by
  intro p e R s m args below meth c Q ls X hW hS hA hO hR hR2 hl hret
  have hx := X.1.1
  have hb := X.1.2.1
  have hml := X.1.2.2.1
  have hown := X.1.2.2.2.1
  have hts := X.1.2.2.2.2
  have hK := X.2.1
  have hl : lv_has ls 3 [(0, .ref (ad 0)), (1, .int w1), (2, .int w2)] := hl
  refine lv_aload_n hx hb d_PG_page_0 rfl (lv_at hl 0 rfl) ?_
  refine gf_PG_34 (z := a 0 13) X hW (gv_0_0_13 _) rfl rfl d_PG_page_1 ?_
  refine lv_if_eq (tgt := 9) hx hb d_PG_page_4 (by decide) (fun h4 => ?_) (fun h4 => ?_)
  · refine lv_aload_n hx hb d_PG_page_9 rfl (lv_at hl 0 rfl) ?_
    refine gf_PG_10 X hW d_PG_page_10 ?_
    refine lv_iload_n hx hb d_PG_page_13 rfl (lv_at hl 1 rfl) ?_
    refine lv_iload_n hx hb d_PG_page_14 rfl (lv_at hl 2 rfl) ?_
    refine gc_pV (b := ad 1) (As := [.int w1, .int w2]) (rest := []) X cw_PG_38 (C_Web_addPage l hw h4) hW hS hA hO (gW_recv (ci := 1) (fs := gf1 ad) hK hW (by omega) (fun σ τ => ge_1 rfl σ τ) (r := (R_Web, F_Web, 4)) rfl) ⟨by omega, by omega⟩ rfl hl.1 rfl (Nat.le_of_ble_eq_true rfl) d_PG_page_15 ⟨by omega, by omega⟩ (fun r t H locs hp hW hS => ?_)
    exact hret r t _ _ _ _ hp hW hS d_PG_page_18
  · refine lv_iconst (v := (-1)) hx hb d_PG_page_7 (by decide) ?_
    exact W.widen (Nat.zero_le _) (Nat.zero_le _) (hret (-1) (ad, np, (a, x, o), v) _ _ _ _ (eP_no (by unfold pP; rw [decide_eq_false h4]; rfl)) hW hS d_PG_page_8)
theorem C_PG_page (l : Launch) {g : gG} {A : Nat → Prop} {ad : Nat → Nat} {np : Nat} {a x : gA} {o : gL} {v : gS} {w1 w2 : Int32} (hw : WFw np a) : CtP l y_PG_page b_PG_page 3 4 [.ref (ad 0), .int w1, .int w2] g A ad np (a, x, o) v (eP ad np a x o v w1 w2) := mkP (by decide) rfl (Nat.le_of_ble_eq_true rfl) (B_PG_page l hw)
