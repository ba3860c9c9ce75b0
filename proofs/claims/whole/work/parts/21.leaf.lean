/-! specs_leaf -/
def sBef (a : gA) (P Q1 : Nat) : Bool := if a 1 P = a 1 Q1 then decide (a 2 P < a 2 Q1) else decide (a 1 P < a 1 Q1)
theorem at_in {n j : Nat} {f : Nat → Int32} (hj : j < n) (hn : n < 1000) : (if 0 ≤ nI j ∧ nI j < nI n then f (nI j).toNatClampNeg else -1) = f j := by
  rw [if_pos ⟨nI_pos' (by omega), nI_lt hj (by omega)⟩, nI_clamp (by omega)]
theorem pCt_y {f : Nat → Int32} {x y : Int32} {n : Nat} (h : f n = x ∨ f n = y) : pCt f x y (n + 1) = pCt f x y n + 1 := if_pos h
theorem pCt_n {f : Nat → Int32} {x y : Int32} {n : Nat} (h1 : ¬ f n = x) (h2 : ¬ f n = y) : pCt f x y (n + 1) = pCt f x y n := if_neg (fun h => h.elim h1 h2)
set_option maxHeartbeats 400000 in
set_option maxRecDepth 20000 in
theorem B_PG_isWithin (l : Launch) {g : gG} {A : Nat → Prop} {ad : Nat → Nat} {np : Nat} {u v : gS} {w0 w1 w2 : Int32}  : BdI l b_PG_isWithin 3 R_PG 0 [.int w0, .int w1, .int w2] g A ad np u v (fun r t => t = (u, v) ∧ r = bI (sIn w0 w1 w2)) := by
  intro p e R s m args below meth c Q ls X hW hS hR hl hret
  have hx := X.1.1
  have hb := X.1.2.1
  have hml := X.1.2.2.1
  have hown := X.1.2.2.2.1
  have hts := X.1.2.2.2.2
  have hK := X.2.1
  have hl : lv_has ls 3 [(0, .int w0), (1, .int w1), (2, .int w2)] := hl
  refine lv_iload_n hx hb d_PG_isWithin_0 rfl (lv_at hl 1 rfl) ?_
  refine lv_iload_n hx hb d_PG_isWithin_1 rfl (lv_at hl 0 rfl) ?_
  refine lv_icmp_gt (tgt := 14) hx hb d_PG_isWithin_2 (by decide) (fun h2 => ?_) (fun h2 => ?_)
  · -- 2 t
    refine lv_iconst (v := 0) hx hb d_PG_isWithin_14 (by decide) ?_
    refine hret 0 (u, v) _ _ _ _ ?_ hW hS d_PG_isWithin_15
    first | exact ⟨rfl, by rw [sIn_f1 h2]; rfl⟩ | exact ⟨rfl, by rw [sIn_f2 h7]; rfl⟩
  · -- 2 f
    refine lv_iload_n hx hb d_PG_isWithin_5 rfl (lv_at hl 0 rfl) ?_
    refine lv_iload_n hx hb d_PG_isWithin_6 rfl (lv_at hl 2 rfl) ?_
    refine lv_icmp_gt (tgt := 14) hx hb d_PG_isWithin_7 (by decide) (fun h7 => ?_) (fun h7 => ?_)
    · -- 7 t
      refine lv_iconst (v := 0) hx hb d_PG_isWithin_14 (by decide) ?_
      refine hret 0 (u, v) _ _ _ _ ?_ hW hS d_PG_isWithin_15
      first | exact ⟨rfl, by rw [sIn_f1 h2]; rfl⟩ | exact ⟨rfl, by rw [sIn_f2 h7]; rfl⟩
    · -- 7 f
      refine lv_iconst (v := 1) hx hb d_PG_isWithin_10 (by decide) ?_
      refine lv_goto (tgt := 15) hx hb d_PG_isWithin_11 (by decide) ?_
      refine hret 1 (u, v) _ _ _ _ ?_ hW hS d_PG_isWithin_15
      exact ⟨rfl, by rw [sIn_t h2 h7]; rfl⟩
theorem C_PG_isWithin (l : Launch) {g : gG} {A : Nat → Prop} {ad : Nat → Nat} {np : Nat} {u v : gS} {w0 w1 w2 : Int32}  : CtI l y_PG_isWithin b_PG_isWithin 3 .boolean 0 [.int w0, .int w1, .int w2] g A ad np u v (fun r t => t = (u, v) ∧ r = bI (sIn w0 w1 w2)) := mkI (by decide) rfl (Nat.le_of_ble_eq_true rfl) (fun r t h => h.2 ▸ bI_nar _) (B_PG_isWithin l )

set_option maxHeartbeats 400000 in
set_option maxRecDepth 20000 in
theorem B_PG_isHost (l : Launch) {g : gG} {A : Nat → Prop} {ad : Nat → Nat} {np : Nat} {u v : gS} {w0 : Int32}  : BdI l b_PG_isHost 1 R_PG 1 [.int w0] g A ad np u v (fun r t => t = (u, v) ∧ r = bI (sIn w0 0 5)) := by
  intro p e R s m args below meth c Q ls X hW hS hR hl hret
  have hx := X.1.1
  have hb := X.1.2.1
  have hml := X.1.2.2.1
  have hown := X.1.2.2.2.1
  have hts := X.1.2.2.2.2
  have hK := X.2.1
  have hl : lv_has ls 1 [(0, .int w0)] := hl
  refine lv_iload_n hx hb d_PG_isHost_0 rfl (lv_at hl 0 rfl) ?_
  refine lv_iconst (v := 0) hx hb d_PG_isHost_1 (by decide) ?_
  refine lv_iconst (v := 5) hx hb d_PG_isHost_2 (by decide) ?_
  refine gc_iS (As := [.int w0, .int 0, .int 5]) (rest := []) X cw_PG_46 (C_PG_isWithin l (w0 := w0) (w1 := 0) (w2 := 5)) hW hS ⟨Nat.le_trans (Nat.le_of_ble_eq_true rfl) hR.1, Nat.le_trans (Nat.le_of_ble_eq_true rfl) hR.2⟩ rfl hl.1 rfl (Nat.le_of_ble_eq_true rfl) d_PG_isHost_3 ⟨Nat.zero_le _, Nat.zero_le _⟩ (fun r t H locs hp hW hS => ?_)
  obtain ⟨rfl, rfl⟩ := hp
  have hW : gW g A ad np u v H := hW
  refine hret (bI (sIn w0 0 5)) (u, v) _ _ _ _ ?_ hW hS d_PG_isHost_6
  exact ⟨rfl, rfl⟩
theorem C_PG_isHost (l : Launch) {g : gG} {A : Nat → Prop} {ad : Nat → Nat} {np : Nat} {u v : gS} {w0 : Int32}  : CtI l y_PG_isHost b_PG_isHost 1 .boolean 1 [.int w0] g A ad np u v (fun r t => t = (u, v) ∧ r = bI (sIn w0 0 5)) := mkI (by decide) rfl (Nat.le_of_ble_eq_true rfl) (fun r t h => h.2 ▸ bI_nar _) (B_PG_isHost l )

set_option maxHeartbeats 400000 in
set_option maxRecDepth 20000 in
theorem B_Web_isPage (l : Launch) {g : gG} {A : Nat → Prop} {ad : Nat → Nat} {np : Nat} {a x : gA} {o : gL} {v : gS} {w : Int32}  : BdI l b_Web_isPage 2 R_Web 0 [.ref (ad 1), .int w] g A ad np (a, x, o) v (fun r t => t = ((a, x, o), v) ∧ r = bI (sIs a w)) := by
  intro p e R s m args below meth c Q ls X hW hS hR hl hret
  have hx := X.1.1
  have hb := X.1.2.1
  have hml := X.1.2.2.1
  have hown := X.1.2.2.2.1
  have hts := X.1.2.2.2.2
  have hK := X.2.1
  have hl : lv_has ls 2 [(0, .ref (ad 1)), (1, .int w)] := hl
  refine lv_iconst (v := 0) hx hb d_Web_isPage_0 (by decide) ?_
  refine lv_iload_n hx hb d_Web_isPage_1 rfl (lv_at hl 1 rfl) ?_
  refine lv_icmp_gt (tgt := 17) hx hb d_Web_isPage_2 (by decide) (fun h2 => ?_) (fun h2 => ?_)
  · -- 2 t
    refine lv_iconst (v := 0) hx hb d_Web_isPage_17 (by decide) ?_
    refine hret 0 ((a, x, o), v) _ _ _ _ ?_ hW hS d_Web_isPage_18
    first | exact ⟨rfl, by rw [sIs_f1 h2]; rfl⟩ | exact ⟨rfl, by rw [sIs_f2 h10]; rfl⟩
  · -- 2 f
    refine lv_iload_n hx hb d_Web_isPage_5 rfl (lv_at hl 1 rfl) ?_
    refine lv_aload_n hx hb d_Web_isPage_6 rfl (lv_at hl 0 rfl) ?_
    refine gf_Web_33 (z := a 0 0) X hW  (gv_0_0_0 _) rfl rfl d_Web_isPage_7 ?_
    refine lv_icmp_ge (tgt := 17) hx hb d_Web_isPage_10 (by decide) (fun h10 => ?_) (fun h10 => ?_)
    · -- 10 t
      refine lv_iconst (v := 0) hx hb d_Web_isPage_17 (by decide) ?_
      refine hret 0 ((a, x, o), v) _ _ _ _ ?_ hW hS d_Web_isPage_18
      first | exact ⟨rfl, by rw [sIs_f1 h2]; rfl⟩ | exact ⟨rfl, by rw [sIs_f2 h10]; rfl⟩
    · -- 10 f
      refine lv_iconst (v := 1) hx hb d_Web_isPage_13 (by decide) ?_
      refine lv_goto (tgt := 18) hx hb d_Web_isPage_14 (by decide) ?_
      refine hret 1 ((a, x, o), v) _ _ _ _ ?_ hW hS d_Web_isPage_18
      exact ⟨rfl, by rw [sIs_t h2 h10]; rfl⟩
theorem C_Web_isPage (l : Launch) {g : gG} {A : Nat → Prop} {ad : Nat → Nat} {np : Nat} {a x : gA} {o : gL} {v : gS} {w : Int32}  : CtI l y_Web_isPage b_Web_isPage 2 .boolean 0 [.ref (ad 1), .int w] g A ad np (a, x, o) v (fun r t => t = ((a, x, o), v) ∧ r = bI (sIs a w)) := mkI (by decide) rfl (Nat.le_of_ble_eq_true rfl) (fun r t h => h.2 ▸ bI_nar _) (B_Web_isPage l )

set_option maxHeartbeats 400000 in
set_option maxRecDepth 20000 in
theorem B_PG_canChange (l : Launch) {g : gG} {A : Nat → Prop} {ad : Nat → Nat} {np : Nat} {a x : gA} {o : gL} {v : gS} {w : Int32}  : BdI l b_PG_canChange 2 R_PG 1 [.ref (ad 0), .int w] g A ad np (a, x, o) v (fun r t => t = ((a, x, o), v) ∧ r = bI (decide (a 0 13 = 0) && sIs a w)) := by
  intro p e R s m args below meth c Q ls X hW hS hR hl hret
  have hx := X.1.1
  have hb := X.1.2.1
  have hml := X.1.2.2.1
  have hown := X.1.2.2.2.1
  have hts := X.1.2.2.2.2
  have hK := X.2.1
  have hl : lv_has ls 2 [(0, .ref (ad 0)), (1, .int w)] := hl
  refine lv_aload_n hx hb d_PG_canChange_0 rfl (lv_at hl 0 rfl) ?_
  refine gf_PG_34 (z := a 0 13) X hW  (gv_0_0_13 _) rfl rfl d_PG_canChange_1 ?_
  refine lv_if_ne (tgt := 22) hx hb d_PG_canChange_4 (by decide) (fun h4 => ?_) (fun h4 => ?_)
  · -- 4 t
    refine lv_iconst (v := 0) hx hb d_PG_canChange_22 (by decide) ?_
    refine hret 0 ((a, x, o), v) _ _ _ _ ?_ hW hS d_PG_canChange_23
    first | exact ⟨rfl, by rw [h15, Bool.and_false]; rfl⟩ | exact ⟨rfl, by rw [decide_eq_false h4]; rfl⟩
  · -- 4 f
    refine lv_aload_n hx hb d_PG_canChange_7 rfl (lv_at hl 0 rfl) ?_
    refine gf_PG_10 X hW  d_PG_canChange_8 ?_
    refine lv_iload_n hx hb d_PG_canChange_11 rfl (lv_at hl 1 rfl) ?_
    refine gc_iV (As := [.int w]) (b := ad 1) (rest := []) X cw_PG_65 (C_Web_isPage l (w := w)) hW hS (gW_recv (ci := 1) (fs := gf1 ad) hK hW (by omega) (fun σ τ => ge_1 rfl σ τ) (r := (R_Web, F_Web, 4)) rfl) ⟨Nat.le_trans (Nat.le_of_ble_eq_true rfl) hR.1, Nat.le_trans (Nat.le_of_ble_eq_true rfl) hR.2⟩ rfl hl.1 rfl (Nat.le_of_ble_eq_true rfl) d_PG_canChange_12 ⟨Nat.zero_le _, Nat.zero_le _⟩ (fun r t H locs hp hW hS => ?_)
    obtain ⟨rfl, rfl⟩ := hp
    have hW : gW g A ad np (a, x, o) v H := hW
    refine lv_if_eq (tgt := 22) hx hb d_PG_canChange_15 (by decide) (fun h15 => ?_) (fun h15 => ?_)
    · -- 15 t
      have h15 : (sIs a w) = false := bI_0 h15
      refine lv_iconst (v := 0) hx hb d_PG_canChange_22 (by decide) ?_
      refine hret 0 ((a, x, o), v) _ _ _ _ ?_ hW hS d_PG_canChange_23
      first | exact ⟨rfl, by rw [h15, Bool.and_false]; rfl⟩ | exact ⟨rfl, by rw [decide_eq_false h4]; rfl⟩
    · -- 15 f
      have h15 : (sIs a w) = true := bI_n0 h15
      refine lv_iconst (v := 1) hx hb d_PG_canChange_18 (by decide) ?_
      refine lv_goto (tgt := 23) hx hb d_PG_canChange_19 (by decide) ?_
      refine hret 1 ((a, x, o), v) _ _ _ _ ?_ hW hS d_PG_canChange_23
      exact ⟨rfl, by rw [decide_eq_true h4, h15]; rfl⟩
theorem C_PG_canChange (l : Launch) {g : gG} {A : Nat → Prop} {ad : Nat → Nat} {np : Nat} {a x : gA} {o : gL} {v : gS} {w : Int32}  : CtI l y_PG_canChange b_PG_canChange 2 .boolean 1 [.ref (ad 0), .int w] g A ad np (a, x, o) v (fun r t => t = ((a, x, o), v) ∧ r = bI (decide (a 0 13 = 0) && sIs a w)) := mkI (by decide) rfl (Nat.le_of_ble_eq_true rfl) (fun r t h => h.2 ▸ bI_nar _) (B_PG_canChange l )

set_option maxHeartbeats 400000 in
set_option maxRecDepth 20000 in
theorem B_Host_addRule (l : Launch) {g : gG} {A : Nat → Prop} {ad : Nat → Nat} {np : Nat} {a x : gA} {o : gL} {v : gS} {hh n : Nat} {pr : Int32} {b : Bool} (hh6 : hh < 6) (hn : a 10 hh = nI n) (hn4 : n ≤ 4) : BdI l b_Host_addRule 3 R_Host 0 [.ref (ad (4 + 3 * hh)), .int pr, .int (bI b)] g A ad np (a, x, o) v (fun r t => (n < 4 → r = 1 ∧ t = ((gu (gu (gu a 8 (4 * hh + n) pr) 9 (4 * hh + n) (bI b)) 10 hh (nI (n + 1)), x, o), v)) ∧ (4 ≤ n → r = 0 ∧ t = ((a, x, o), v))) := by
  intro p e R s m args below meth c Q ls X hW hS hR hl hret
  have hx := X.1.1
  have hb := X.1.2.1
  have hml := X.1.2.2.1
  have hown := X.1.2.2.2.1
  have hts := X.1.2.2.2.2
  have hK := X.2.1
  have hl : lv_has ls 3 [(0, .ref (ad (4 + 3 * hh))), (1, .int pr), (2, .int (bI b))] := hl
  refine lv_aload_n hx hb d_Host_addRule_0 rfl (lv_at hl 0 rfl) ?_
  refine gf_Host_19 (z := nI n) X hW (by omega) (gk_h0 (by omega)) (gv_0_10 (by omega)) (gi_0_10 _) hn d_Host_addRule_1 ?_
  refine lv_iconst (v := 4) hx hb d_Host_addRule_4 (by decide) ?_
  refine lv_icmp_lt (tgt := 10) hx hb d_Host_addRule_5 (by decide) (fun h5 => ?_) (fun h5 => ?_)
  · -- 5 t
    have h5 : n < 4 := (nI_ltI (a := n) (b := 4) (by omega) (by omega)).mp h5
    refine lv_aload_n hx hb d_Host_addRule_10 rfl (lv_at hl 0 rfl) ?_
    refine gf_Host_9 X hW (by omega) (gk_h0 (by omega)) d_Host_addRule_11 ?_
    refine lv_aload_n hx hb d_Host_addRule_14 rfl (lv_at hl 0 rfl) ?_
    refine gf_Host_19 (z := nI n) X hW (by omega) (gk_h0 (by omega)) (gv_0_10 (by omega)) (gi_0_10 _) hn d_Host_addRule_15 ?_
    refine lv_iload_n hx hb d_Host_addRule_18 rfl (lv_at hl 1 rfl) ?_
    refine gy_is (z := pr) (q := (0, 8, 4 * hh + n)) hx hb hK hW hS (by omega) (gk_h1 (by omega)).1 (by rw [(gk_h1 (by omega)).2]; exact vp_in_nI (by omega) (by decide)) (gv_0_8 (by omega) (by omega)) ((gi_0_8 _ (by omega)).trans (by rw [nI_clamp (by omega)])) d_Host_addRule_19 (fun H locs hW hS => ?_)
    have hW : gW g A ad np (gu a 8 (4 * hh + n) pr, x, o) v H := hW
    refine lv_aload_n hx hb d_Host_addRule_20 rfl (lv_at hl 0 rfl) ?_
    refine gf_Host_15 X hW (by omega) (gk_h0 (by omega)) d_Host_addRule_21 ?_
    refine lv_aload_n hx hb d_Host_addRule_24 rfl (lv_at hl 0 rfl) ?_
    refine gf_Host_19 (z := nI n) X hW (by omega) (gk_h0 (by omega)) (gv_0_10 (by omega)) (gi_0_10 _) hn d_Host_addRule_25 ?_
    refine lv_iload_n hx hb d_Host_addRule_28 rfl (lv_at hl 2 rfl) ?_
    refine gy_zs (z := bI b) (q := (0, 9, 4 * hh + n)) hx hb hK hW hS (by omega) (gk_h2 (by omega)).1 (by rw [(gk_h2 (by omega)).2]; exact vp_in_nI (by omega) (by decide)) (bI_narz b) (gv_0_9 (by omega) (by omega)) ((gi_0_9 _ (by omega)).trans (by rw [nI_clamp (by omega)])) d_Host_addRule_29 (fun H locs hW hS => ?_)
    have hW : gW g A ad np (gu (gu a 8 (4 * hh + n) pr) 9 (4 * hh + n) (bI b), x, o) v H := hW
    refine lv_aload_n hx hb d_Host_addRule_30 rfl (lv_at hl 0 rfl) ?_
    refine lv_dup hx hb d_Host_addRule_31 rfl ?_
    refine gf_Host_19 (z := nI n) X hW (by omega) (gk_h0 (by omega)) (gv_0_10 (by omega)) (gi_0_10 _) hn d_Host_addRule_32 ?_
    refine lv_iconst (v := 1) hx hb d_Host_addRule_35 (by decide) ?_
    refine lv_iadd hx hb d_Host_addRule_36 ?_
    rw [show (nI n) + 1 = nI (n + 1) from nI_1 n]
    refine pf_Host_19 (z := nI (n + 1)) X hW hS (by omega) (gk_h0 (by omega)) (gv_0_10 (by omega)) (gi_0_10 _) rfl rfl d_Host_addRule_37 (fun H locs hW hS => ?_)
    have hW : gW g A ad np (gu (gu (gu a 8 (4 * hh + n) pr) 9 (4 * hh + n) (bI b)) 10 hh (nI (n + 1)), x, o) v H := hW
    refine lv_iconst (v := 1) hx hb d_Host_addRule_40 (by decide) ?_
    refine hret 1 ((gu (gu (gu a 8 (4 * hh + n) pr) 9 (4 * hh + n) (bI b)) 10 hh (nI (n + 1)), x, o), v) _ _ _ _ ?_ hW hS d_Host_addRule_41
    exact ⟨fun _ => ⟨rfl, rfl⟩, fun q => absurd q (by omega)⟩
  · -- 5 f
    have h5 : 4 ≤ n := Nat.le_of_not_lt fun q => h5 ((nI_ltI (a := n) (b := 4) (by omega) (by omega)).mpr q)
    refine lv_iconst (v := 0) hx hb d_Host_addRule_8 (by decide) ?_
    refine hret 0 ((a, x, o), v) _ _ _ _ ?_ hW hS d_Host_addRule_9
    exact ⟨fun q => absurd q (by omega), fun _ => ⟨rfl, rfl⟩⟩
theorem C_Host_addRule (l : Launch) {g : gG} {A : Nat → Prop} {ad : Nat → Nat} {np : Nat} {a x : gA} {o : gL} {v : gS} {hh n : Nat} {pr : Int32} {b : Bool} (hh6 : hh < 6) (hn : a 10 hh = nI n) (hn4 : n ≤ 4) : CtI l y_Host_addRule b_Host_addRule 3 .boolean 0 [.ref (ad (4 + 3 * hh)), .int pr, .int (bI b)] g A ad np (a, x, o) v (fun r t => (n < 4 → r = 1 ∧ t = ((gu (gu (gu a 8 (4 * hh + n) pr) 9 (4 * hh + n) (bI b)) 10 hh (nI (n + 1)), x, o), v)) ∧ (4 ≤ n → r = 0 ∧ t = ((a, x, o), v))) := mkI (by decide) rfl (Nat.le_of_ble_eq_true rfl) (fun r t h => by rcases Nat.lt_or_ge n 4 with hc | hc; exact (h.1 hc).1 ▸ rfl; exact (h.2 hc).1 ▸ rfl) (B_Host_addRule l hh6 hn hn4)

set_option maxHeartbeats 400000 in
set_option maxRecDepth 20000 in
theorem B_Host_isPrefix (l : Launch) {g : gG} {A : Nat → Prop} {ad : Nat → Nat} {np : Nat} {u v : gS} {x1 y1 : Nat} {w : Int32} (hw : w = nI x1) (hx1 : x1 ≤ 999999) (hy1 : y1 ≤ 999999) : BdI l b_Host_isPrefix 3 R_Host 0 [.int w, .int (nI y1)] g A ad np u v (fun r t => t = (u, v) ∧ r = bI (hdP y1 x1)) := by
  intro p e R s m args below meth c Q ls X hW hS hR hl hret
  have hx := X.1.1
  have hb := X.1.2.1
  have hml := X.1.2.2.1
  have hown := X.1.2.2.2.1
  have hts := X.1.2.2.2.2
  have hK := X.2.1
  subst hw
  have hl : lv_has ls 3 [(0, .int (nI x1)), (1, .int (nI y1))] := hl
  refine lv_iload_n hx hb d_Host_isPrefix_0 rfl (lv_at hl 1 rfl) ?_
  refine lv_istore_n hx hb d_Host_isPrefix_1 rfl hl (by decide) rfl (fun ls hl => ?_)
  have hl : lv_has ls 3 [(2, .int (nI y1)), (0, .int (nI x1)), (1, .int (nI y1))] := hl
  have lp2 : ∀ (fuel : Nat) (f : Nat) (y : Nat) (ls : Array Slot) (H : Heap) (locs : List Loc), (y < 10 ^ f) → (y ≤ y1) → (pfF 10 y1 x1 = pfF f y x1) → y < fuel → lv_has ls 3 [(0, .int (nI x1)), (1, .int (nI y1)), (2, .int (nI y))] → gW g A ad np u v H → va_S A s.heap H locs → W p l e R s m args below meth c H locs 0 0 Q (F0 m 2 ls []) := by
    intro fuel
    induction fuel with
    | zero => intro f y ls H locs _ _ _ hfu; exact absurd hfu (Nat.not_lt_zero _)
    | succ fuel ih2 =>
      intro f y ls H locs hy hyy he hfu hl hW hS
      refine lv_iload_n hx hb d_Host_isPrefix_2 rfl (lv_at hl 2 rfl) ?_
      refine lv_if_le (tgt := 21) hx hb d_Host_isPrefix_3 (by decide) (fun h3 => ?_) (fun h3 => ?_)
      · -- 3 t
        have h3 : y ≤ 0 := (nI_leI (a := y) (b := 0) (by omega) (by omega)).mp h3
        refine lv_iload_n hx hb d_Host_isPrefix_21 rfl (lv_at hl 0 rfl) ?_
        refine lv_if_ne (tgt := 29) hx hb d_Host_isPrefix_22 (by decide) (fun h22 => ?_) (fun h22 => ?_)
        · -- 22 t
          have h22 : ¬ x1 = 0 := fun q => h22 ((nI_eq (a := x1) (b := 0) (by omega) (by omega)).mpr q)
          refine lv_iconst (v := 0) hx hb d_Host_isPrefix_29 (by decide) ?_
          refine hret 0 (u, v) _ _ _ _ ?_ hW hS d_Host_isPrefix_30
          exact ⟨rfl, by unfold hdP; rw [he, show y = 0 by omega, pfF_z, decide_eq_false h22]; rfl⟩
        · -- 22 f
          have h22 : x1 = 0 := (nI_eq (a := x1) (b := 0) (by omega) (by omega)).mp h22
          refine lv_iconst (v := 1) hx hb d_Host_isPrefix_25 (by decide) ?_
          refine lv_goto (tgt := 30) hx hb d_Host_isPrefix_26 (by decide) ?_
          refine hret 1 (u, v) _ _ _ _ ?_ hW hS d_Host_isPrefix_30
          exact ⟨rfl, by unfold hdP; rw [decide_eq_true h22, Bool.or_true]; rfl⟩
      · -- 3 f
        have h3 : 0 < y := Nat.lt_of_not_le fun q => h3 ((nI_leI (a := y) (b := 0) (by omega) (by omega)).mpr q)
        refine lv_iload_n hx hb d_Host_isPrefix_6 rfl (lv_at hl 2 rfl) ?_
        refine lv_iload_n hx hb d_Host_isPrefix_7 rfl (lv_at hl 0 rfl) ?_
        refine lv_icmp_ne (tgt := 13) hx hb d_Host_isPrefix_8 (by decide) (fun h8 => ?_) (fun h8 => ?_)
        · -- 8 t
          have h8 : ¬ y = x1 := fun q => h8 ((nI_eq (a := y) (b := x1) (by omega) (by omega)).mpr q)
          refine lv_iload_n hx hb d_Host_isPrefix_13 rfl (lv_at hl 2 rfl) ?_
          refine lv_bipush (v := 10) hx hb d_Host_isPrefix_14 (by decide) ?_
          refine lv_idiv hx hb d_Host_isPrefix_16 (by decide) ?_
          rw [show (nI y) / 10 = nI (y / 10) from pk_div (d := 10) (by omega) (by decide) (by decide)]
          refine lv_istore_n hx hb d_Host_isPrefix_17 rfl hl (by decide) rfl (fun ls hl => ?_)
          have hl : lv_has ls 3 [(2, .int (nI (y / 10))), (0, .int (nI x1)), (1, .int (nI y1))] := hl
          refine lv_goto (tgt := 2) hx hb d_Host_isPrefix_18 (by decide) ?_
          obtain ⟨f', rfl⟩ := pow_ne hy h3
          exact ih2 f' (y / 10) _ _ _ (by rw [Nat.pow_succ] at hy; omega) (by omega) (he.trans (pfF_step h3 h8)) (by omega) (lv_sub hl [1, 2, 0] rfl) hW hS
        · -- 8 f
          have h8 : y = x1 := (nI_eq (a := y) (b := x1) (by omega) (by omega)).mp h8
          refine lv_iconst (v := 1) hx hb d_Host_isPrefix_11 (by decide) ?_
          refine hret 1 (u, v) _ _ _ _ ?_ hW hS d_Host_isPrefix_12
          obtain ⟨f', rfl⟩ := pow_ne hy h3
          exact ⟨rfl, by unfold hdP; rw [he, pfF_hit h3 h8]; rfl⟩
  exact lp2 _ 10 y1 _ _ _ (by omega) (Nat.le_refl _) rfl (Nat.lt_succ_self _) (lv_sub hl [1, 2, 0] rfl) hW hS
theorem C_Host_isPrefix (l : Launch) {g : gG} {A : Nat → Prop} {ad : Nat → Nat} {np : Nat} {u v : gS} {x1 y1 : Nat} {w : Int32} (hw : w = nI x1) (hx1 : x1 ≤ 999999) (hy1 : y1 ≤ 999999) : CtI l y_Host_isPrefix b_Host_isPrefix 3 .boolean 0 [.int w, .int (nI y1)] g A ad np u v (fun r t => t = (u, v) ∧ r = bI (hdP y1 x1)) := mkI (by decide) rfl (Nat.le_of_ble_eq_true rfl) (fun r t h => h.2 ▸ bI_nar _) (B_Host_isPrefix l hw hx1 hy1)

set_option maxHeartbeats 400000 in
set_option maxRecDepth 20000 in
theorem B_Host_allowsPath (l : Launch) {g : gG} {A : Nat → Prop} {ad : Nat → Nat} {np : Nat} {a x : gA} {o : gL} {v : gS} {hh n y1 : Nat} {pr al : Nat → Int32} (hh6 : hh < 6) (hn : a 10 hh = nI n) (hn4 : n ≤ 4) (hy1 : y1 ≤ 999999) (hpr : ∀ i, i < 4 → a 8 (4 * hh + i) = pr i) (hal : ∀ i, i < 4 → a 9 (4 * hh + i) = al i) (hpx : ∀ i, i < n → ∃ q, q ≤ 999999 ∧ pr i = nI q) : BdI l b_Host_allowsPath 6 R_Host 1 [.ref (ad (4 + 3 * hh)), .int (nI y1)] g A ad np (a, x, o) v (fun r t => t = ((a, x, o), v) ∧ r = bI (caS pr al y1 n).2) := by
  intro p e R s m args below meth c Q ls X hW hS hR hl hret
  have hx := X.1.1
  have hb := X.1.2.1
  have hml := X.1.2.2.1
  have hown := X.1.2.2.2.1
  have hts := X.1.2.2.2.2
  have hK := X.2.1
  have hl : lv_has ls 6 [(0, .ref (ad (4 + 3 * hh))), (1, .int (nI y1))] := hl
  refine lv_iconst (v := (-1)) hx hb d_Host_allowsPath_0 (by decide) ?_
  refine lv_istore_n hx hb d_Host_allowsPath_1 rfl hl (by decide) rfl (fun ls hl => ?_)
  have hl : lv_has ls 6 [(2, .int (-1)), (0, .ref (ad (4 + 3 * hh))), (1, .int (nI y1))] := hl
  refine lv_iconst (v := 1) hx hb d_Host_allowsPath_2 (by decide) ?_
  refine lv_istore_n hx hb d_Host_allowsPath_3 rfl hl (by decide) rfl (fun ls hl => ?_)
  have hl : lv_has ls 6 [(3, .int 1), (2, .int (-1)), (0, .ref (ad (4 + 3 * hh))), (1, .int (nI y1))] := hl
  refine lv_iconst (v := 0) hx hb d_Host_allowsPath_4 (by decide) ?_
  refine lv_istore hx hb d_Host_allowsPath_5 hl (by decide) rfl (fun ls hl => ?_)
  have hl : lv_has ls 6 [(4, .int 0), (3, .int 1), (2, .int (-1)), (0, .ref (ad (4 + 3 * hh))), (1, .int (nI y1))] := hl
  have lp7 : ∀ (fuel : Nat) (i : Nat) (ls : Array Slot) (H : Heap) (locs : List Loc), (i ≤ n) → n - i < fuel → lv_has ls 6 [(0, .ref (ad (4 + 3 * hh))), (1, .int (nI y1)), (2, .int ((caS pr al y1 i).1)), (3, .int (bI (caS pr al y1 i).2)), (4, .int (nI i))] → gW g A ad np (a, x, o) v H → va_S A s.heap H locs → W p l e R s m args below meth c H locs 0 0 Q (F0 m 7 ls []) := by
    intro fuel
    induction fuel with
    | zero => intro i ls H locs _ hfu; exact absurd hfu (Nat.not_lt_zero _)
    | succ fuel ih7 =>
      intro i ls H locs hi hfu hl hW hS
      refine lv_iload hx hb d_Host_allowsPath_7 (lv_at hl 4 rfl) ?_
      refine lv_aload_n hx hb d_Host_allowsPath_9 rfl (lv_at hl 0 rfl) ?_
      refine gf_Host_19 (z := nI n) X hW (by omega) (gk_h0 (by omega)) (gv_0_10 (by omega)) (gi_0_10 _) hn d_Host_allowsPath_10 ?_
      refine lv_icmp_ge (tgt := 78) hx hb d_Host_allowsPath_13 (by decide) (fun h13 => ?_) (fun h13 => ?_)
      · -- 13 t
        have h13 : n ≤ i := (nI_leI (a := n) (b := i) (by omega) (by omega)).mp h13
        refine lv_iload_n hx hb d_Host_allowsPath_78 rfl (lv_at hl 3 rfl) ?_
        refine hret (bI (caS pr al y1 i).2) ((a, x, o), v) _ _ _ _ ?_ hW hS d_Host_allowsPath_79
        exact ⟨rfl, by rw [show n = i by omega]⟩
      · -- 13 f
        have h13 : i < n := Nat.lt_of_not_le fun q => h13 ((nI_leI (a := n) (b := i) (by omega) (by omega)).mpr q)
        refine lv_aload_n hx hb d_Host_allowsPath_16 rfl (lv_at hl 0 rfl) ?_
        refine gf_Host_9 X hW (by omega) (gk_h0 (by omega)) d_Host_allowsPath_17 ?_
        refine lv_iload hx hb d_Host_allowsPath_20 (lv_at hl 4 rfl) ?_
        refine gy_ia (z := pr i) (q := (0, 8, 4 * hh + i)) hx hb hK hW (by omega) (gk_h1 (by omega)).1 (by rw [(gk_h1 (by omega)).2]; exact vp_in_nI (by omega) (by decide)) (gv_0_8 (by omega) (by omega)) ((gi_0_8 _ (by omega)).trans (by rw [nI_clamp (by omega)])) (hpr i (by omega)) d_Host_allowsPath_22 ?_
        refine lv_istore hx hb d_Host_allowsPath_23 hl (by decide) rfl (fun ls hl => ?_)
        have hl : lv_has ls 6 [(5, .int (pr i)), (0, .ref (ad (4 + 3 * hh))), (1, .int (nI y1)), (2, .int ((caS pr al y1 i).1)), (3, .int (bI (caS pr al y1 i).2)), (4, .int (nI i))] := hl
        obtain ⟨qx, hqx, hpi⟩ := hpx i (by omega)
        refine lv_iload hx hb d_Host_allowsPath_25 (lv_at hl 0 rfl) ?_
        refine lv_iload_n hx hb d_Host_allowsPath_27 rfl (lv_at hl 3 rfl) ?_
        refine lv_icmp_lt (tgt := 72) hx hb d_Host_allowsPath_28 (by decide) (fun h28 => ?_) (fun h28 => ?_)
        · -- 28 t
          refine lv_iinc (v := nI (i + 1)) (k := 5) hx hb d_Host_allowsPath_72 hl rfl (nI_inc i) (by decide) rfl (fun ls hl => ?_)
          have hl : lv_has ls 6 [(4, .int (nI (i + 1))), (5, .int (pr i)), (0, .ref (ad (4 + 3 * hh))), (1, .int (nI y1)), (2, .int ((caS pr al y1 i).1)), (3, .int (bI (caS pr al y1 i).2))] := hl
          refine lv_goto (tgt := 7) hx hb d_Host_allowsPath_75 (by decide) ?_
          have e9 := caS_skip (pr := pr) (al := al) (y := y1) (i := i) (by first | exact Or.inl h28 | exact Or.inr (by rw [hpi, nI_clamp (by omega)]; exact h37))
          exact ih7 (i + 1) _ _ _ (by omega) (by omega) (by rw [e9]; exact (lv_sub hl [2, 3, 4, 5, 0] rfl)) hW hS
        · -- 28 f
          refine lv_iload hx hb d_Host_allowsPath_31 (lv_at hl 0 rfl) ?_
          refine lv_iload_n hx hb d_Host_allowsPath_33 rfl (lv_at hl 2 rfl) ?_
          refine gc_iS (As := [.int (pr i), .int (nI y1)]) (rest := []) X cw_Host_23 (C_Host_isPrefix l (x1 := qx) (y1 := y1) hpi hqx hy1) hW hS ⟨Nat.le_trans (Nat.le_of_ble_eq_true rfl) hR.1, Nat.le_trans (Nat.le_of_ble_eq_true rfl) hR.2⟩ rfl hl.1 rfl (Nat.le_of_ble_eq_true rfl) d_Host_allowsPath_34 ⟨Nat.zero_le _, Nat.zero_le _⟩ (fun r t H locs hp hW hS => ?_)
          obtain ⟨rfl, rfl⟩ := hp
          have hW : gW g A ad np (a, x, o) v H := hW
          refine lv_if_ne (tgt := 43) hx hb d_Host_allowsPath_37 (by decide) (fun h37 => ?_) (fun h37 => ?_)
          · -- 37 t
            have h37 : (hdP y1 qx) = true := bI_n0 h37
            refine lv_aload_n hx hb d_Host_allowsPath_43 rfl (lv_at hl 1 rfl) ?_
            refine gf_Host_15 X hW (by omega) (gk_h0 (by omega)) d_Host_allowsPath_44 ?_
            refine lv_iload hx hb d_Host_allowsPath_47 (lv_at hl 5 rfl) ?_
            refine gy_za (z := al i) (q := (0, 9, 4 * hh + i)) hx hb hK hW (by omega) (gk_h2 (by omega)).1 (by rw [(gk_h2 (by omega)).2]; exact vp_in_nI (by omega) (by decide)) (gv_0_9 (by omega) (by omega)) ((gi_0_9 _ (by omega)).trans (by rw [nI_clamp (by omega)])) (hal i (by omega)) d_Host_allowsPath_49 ?_
            refine lv_if_ne (tgt := 63) hx hb d_Host_allowsPath_50 (by decide) (fun h50 => ?_) (fun h50 => ?_)
            · -- 50 t
              refine lv_iconst (v := 1) hx hb d_Host_allowsPath_63 (by decide) ?_
              refine lv_goto (tgt := 68) hx hb d_Host_allowsPath_64 (by decide) ?_
              refine lv_istore_n hx hb d_Host_allowsPath_68 rfl hl (by decide) rfl (fun ls hl => ?_)
              have hl : lv_has ls 6 [(3, .int 1), (5, .int (pr i)), (0, .ref (ad (4 + 3 * hh))), (1, .int (nI y1)), (2, .int ((caS pr al y1 i).1)), (4, .int (nI i))] := hl
              refine lv_iload hx hb d_Host_allowsPath_69 (lv_at hl 1 rfl) ?_
              refine lv_istore_n hx hb d_Host_allowsPath_71 rfl hl (by decide) rfl (fun ls hl => ?_)
              have hl : lv_has ls 6 [(2, .int (pr i)), (3, .int 1), (5, .int (pr i)), (0, .ref (ad (4 + 3 * hh))), (1, .int (nI y1)), (4, .int (nI i))] := hl
              refine lv_iinc (v := nI (i + 1)) (k := 5) hx hb d_Host_allowsPath_72 hl rfl (nI_inc i) (by decide) rfl (fun ls hl => ?_)
              have hl : lv_has ls 6 [(4, .int (nI (i + 1))), (2, .int (pr i)), (3, .int 1), (5, .int (pr i)), (0, .ref (ad (4 + 3 * hh))), (1, .int (nI y1))] := hl
              refine lv_goto (tgt := 7) hx hb d_Host_allowsPath_75 (by decide) ?_
              have e9 : caS pr al y1 (i + 1) = (pr i, true) := caS_take h28 (by rw [hpi, nI_clamp (by omega)]; exact h37) (by first | (simp [h50, h56, h60]; done) | (simp [h50, h56]; done) | (simp [h50]; done))
              exact ih7 (i + 1) _ _ _ (by omega) (by omega) (by rw [e9]; exact (lv_sub hl [4, 5, 1, 2, 0] rfl)) hW hS
            · -- 50 f
              refine lv_iload hx hb d_Host_allowsPath_53 (lv_at hl 0 rfl) ?_
              refine lv_iload_n hx hb d_Host_allowsPath_55 rfl (lv_at hl 3 rfl) ?_
              refine lv_icmp_ne (tgt := 67) hx hb d_Host_allowsPath_56 (by decide) (fun h56 => ?_) (fun h56 => ?_)
              · -- 56 t
                refine lv_iconst (v := 0) hx hb d_Host_allowsPath_67 (by decide) ?_
                refine lv_istore_n hx hb d_Host_allowsPath_68 rfl hl (by decide) rfl (fun ls hl => ?_)
                have hl : lv_has ls 6 [(3, .int 0), (5, .int (pr i)), (0, .ref (ad (4 + 3 * hh))), (1, .int (nI y1)), (2, .int ((caS pr al y1 i).1)), (4, .int (nI i))] := hl
                refine lv_iload hx hb d_Host_allowsPath_69 (lv_at hl 1 rfl) ?_
                refine lv_istore_n hx hb d_Host_allowsPath_71 rfl hl (by decide) rfl (fun ls hl => ?_)
                have hl : lv_has ls 6 [(2, .int (pr i)), (3, .int 0), (5, .int (pr i)), (0, .ref (ad (4 + 3 * hh))), (1, .int (nI y1)), (4, .int (nI i))] := hl
                refine lv_iinc (v := nI (i + 1)) (k := 5) hx hb d_Host_allowsPath_72 hl rfl (nI_inc i) (by decide) rfl (fun ls hl => ?_)
                have hl : lv_has ls 6 [(4, .int (nI (i + 1))), (2, .int (pr i)), (3, .int 0), (5, .int (pr i)), (0, .ref (ad (4 + 3 * hh))), (1, .int (nI y1))] := hl
                refine lv_goto (tgt := 7) hx hb d_Host_allowsPath_75 (by decide) ?_
                have e9 : caS pr al y1 (i + 1) = (pr i, false) := caS_take h28 (by rw [hpi, nI_clamp (by omega)]; exact h37) (by first | (simp [h50, h56, h60]; done) | (simp [h50, h56]; done) | (simp [h50]; done))
                exact ih7 (i + 1) _ _ _ (by omega) (by omega) (by rw [e9]; exact (lv_sub hl [4, 5, 1, 2, 0] rfl)) hW hS
              · -- 56 f
                refine lv_iload_n hx hb d_Host_allowsPath_59 rfl (lv_at hl 4 rfl) ?_
                refine lv_if_eq (tgt := 67) hx hb d_Host_allowsPath_60 (by decide) (fun h60 => ?_) (fun h60 => ?_)
                · -- 60 t
                  have h60 : (caS pr al y1 i).2 = false := bI_0 h60
                  refine lv_iconst (v := 0) hx hb d_Host_allowsPath_67 (by decide) ?_
                  refine lv_istore_n hx hb d_Host_allowsPath_68 rfl hl (by decide) rfl (fun ls hl => ?_)
                  have hl : lv_has ls 6 [(3, .int 0), (5, .int (pr i)), (0, .ref (ad (4 + 3 * hh))), (1, .int (nI y1)), (2, .int ((caS pr al y1 i).1)), (4, .int (nI i))] := hl
                  refine lv_iload hx hb d_Host_allowsPath_69 (lv_at hl 1 rfl) ?_
                  refine lv_istore_n hx hb d_Host_allowsPath_71 rfl hl (by decide) rfl (fun ls hl => ?_)
                  have hl : lv_has ls 6 [(2, .int (pr i)), (3, .int 0), (5, .int (pr i)), (0, .ref (ad (4 + 3 * hh))), (1, .int (nI y1)), (4, .int (nI i))] := hl
                  refine lv_iinc (v := nI (i + 1)) (k := 5) hx hb d_Host_allowsPath_72 hl rfl (nI_inc i) (by decide) rfl (fun ls hl => ?_)
                  have hl : lv_has ls 6 [(4, .int (nI (i + 1))), (2, .int (pr i)), (3, .int 0), (5, .int (pr i)), (0, .ref (ad (4 + 3 * hh))), (1, .int (nI y1))] := hl
                  refine lv_goto (tgt := 7) hx hb d_Host_allowsPath_75 (by decide) ?_
                  have e9 : caS pr al y1 (i + 1) = (pr i, false) := caS_take h28 (by rw [hpi, nI_clamp (by omega)]; exact h37) (by first | (simp [h50, h56, h60]; done) | (simp [h50, h56]; done) | (simp [h50]; done))
                  exact ih7 (i + 1) _ _ _ (by omega) (by omega) (by rw [e9]; exact (lv_sub hl [4, 5, 1, 2, 0] rfl)) hW hS
                · -- 60 f
                  have h60 : (caS pr al y1 i).2 = true := bI_n0 h60
                  refine lv_iconst (v := 1) hx hb d_Host_allowsPath_63 (by decide) ?_
                  refine lv_goto (tgt := 68) hx hb d_Host_allowsPath_64 (by decide) ?_
                  refine lv_istore_n hx hb d_Host_allowsPath_68 rfl hl (by decide) rfl (fun ls hl => ?_)
                  have hl : lv_has ls 6 [(3, .int 1), (5, .int (pr i)), (0, .ref (ad (4 + 3 * hh))), (1, .int (nI y1)), (2, .int ((caS pr al y1 i).1)), (4, .int (nI i))] := hl
                  refine lv_iload hx hb d_Host_allowsPath_69 (lv_at hl 1 rfl) ?_
                  refine lv_istore_n hx hb d_Host_allowsPath_71 rfl hl (by decide) rfl (fun ls hl => ?_)
                  have hl : lv_has ls 6 [(2, .int (pr i)), (3, .int 1), (5, .int (pr i)), (0, .ref (ad (4 + 3 * hh))), (1, .int (nI y1)), (4, .int (nI i))] := hl
                  refine lv_iinc (v := nI (i + 1)) (k := 5) hx hb d_Host_allowsPath_72 hl rfl (nI_inc i) (by decide) rfl (fun ls hl => ?_)
                  have hl : lv_has ls 6 [(4, .int (nI (i + 1))), (2, .int (pr i)), (3, .int 1), (5, .int (pr i)), (0, .ref (ad (4 + 3 * hh))), (1, .int (nI y1))] := hl
                  refine lv_goto (tgt := 7) hx hb d_Host_allowsPath_75 (by decide) ?_
                  have e9 : caS pr al y1 (i + 1) = (pr i, true) := caS_take h28 (by rw [hpi, nI_clamp (by omega)]; exact h37) (by first | (simp [h50, h56, h60]; done) | (simp [h50, h56]; done) | (simp [h50]; done))
                  exact ih7 (i + 1) _ _ _ (by omega) (by omega) (by rw [e9]; exact (lv_sub hl [4, 5, 1, 2, 0] rfl)) hW hS
          · -- 37 f
            have h37 : (hdP y1 qx) = false := bI_0 h37
            refine lv_goto (tgt := 72) hx hb d_Host_allowsPath_40 (by decide) ?_
            refine lv_iinc (v := nI (i + 1)) (k := 5) hx hb d_Host_allowsPath_72 hl rfl (nI_inc i) (by decide) rfl (fun ls hl => ?_)
            have hl : lv_has ls 6 [(4, .int (nI (i + 1))), (5, .int (pr i)), (0, .ref (ad (4 + 3 * hh))), (1, .int (nI y1)), (2, .int ((caS pr al y1 i).1)), (3, .int (bI (caS pr al y1 i).2))] := hl
            refine lv_goto (tgt := 7) hx hb d_Host_allowsPath_75 (by decide) ?_
            have e9 := caS_skip (pr := pr) (al := al) (y := y1) (i := i) (by first | exact Or.inl h28 | exact Or.inr (by rw [hpi, nI_clamp (by omega)]; exact h37))
            exact ih7 (i + 1) _ _ _ (by omega) (by omega) (by rw [e9]; exact (lv_sub hl [2, 3, 4, 5, 0] rfl)) hW hS
  exact lp7 _ 0 _ _ _ (Nat.zero_le _) (Nat.lt_succ_self _) (lv_sub hl [3, 4, 2, 1, 0] rfl) hW hS
theorem C_Host_allowsPath (l : Launch) {g : gG} {A : Nat → Prop} {ad : Nat → Nat} {np : Nat} {a x : gA} {o : gL} {v : gS} {hh n y1 : Nat} {pr al : Nat → Int32} (hh6 : hh < 6) (hn : a 10 hh = nI n) (hn4 : n ≤ 4) (hy1 : y1 ≤ 999999) (hpr : ∀ i, i < 4 → a 8 (4 * hh + i) = pr i) (hal : ∀ i, i < 4 → a 9 (4 * hh + i) = al i) (hpx : ∀ i, i < n → ∃ q, q ≤ 999999 ∧ pr i = nI q) : CtI l y_Host_allowsPath b_Host_allowsPath 6 .boolean 1 [.ref (ad (4 + 3 * hh)), .int (nI y1)] g A ad np (a, x, o) v (fun r t => t = ((a, x, o), v) ∧ r = bI (caS pr al y1 n).2) := mkI (by decide) rfl (Nat.le_of_ble_eq_true rfl) (fun r t h => h.2 ▸ bI_nar _) (B_Host_allowsPath l hh6 hn hn4 hy1 hpr hal hpx)

set_option maxHeartbeats 400000 in
set_option maxRecDepth 20000 in
theorem B_Web_isAllowed (l : Launch) {g : gG} {A : Nat → Prop} {ad : Nat → Nat} {np : Nat} {a x : gA} {o : gL} {v : gS} {P : Nat} (hw : WFw np a) (hP : P < np) : BdI l b_Web_isAllowed 2 R_Web 2 [.ref (ad 1), .int (nI P)] g A ad np (a, x, o) v (fun r t => t = ((a, x, o), v) ∧ r = bI (sAlw a P)) := by
  intro p e R s m args below meth c Q ls X hW hS hR hl hret
  have hx := X.1.1
  have hb := X.1.2.1
  have hml := X.1.2.2.1
  have hown := X.1.2.2.2.1
  have hts := X.1.2.2.2.2
  have hK := X.2.1
  have hl : lv_has ls 2 [(0, .ref (ad 1)), (1, .int (nI P))] := hl
  have hnp := hw.1
  obtain ⟨⟨hh, hh6, h1⟩, ⟨yy, hy1, hy2, h2⟩, -⟩ := hw.2.2.1 P hP
  obtain ⟨rc, hrc, h3, h4⟩ := hw.2.2.2.1 hh hh6
  refine lv_aload_n hx hb d_Web_isAllowed_0 rfl (lv_at hl 0 rfl) ?_
  refine gf_Web_19 X hW  d_Web_isAllowed_1 ?_
  refine lv_aload_n hx hb d_Web_isAllowed_4 rfl (lv_at hl 0 rfl) ?_
  refine gf_Web_11 X hW  d_Web_isAllowed_5 ?_
  refine lv_iload_n hx hb d_Web_isAllowed_8 rfl (lv_at hl 1 rfl) ?_
  refine gy_aP (i := P) hx hb hK hW (by omega) hnp rfl d_Web_isAllowed_9 ?_
  refine gf_Web_53 (z := nI hh) X hW (by unfold gp; omega) (gk_p0 P) (gv_0_1 (by omega)) (gi_0_1 _) h1 d_Web_isAllowed_10 ?_
  refine gy_aH (i := hh) hx hb hK hW (by omega) rfl d_Web_isAllowed_13 ?_
  refine lv_aload_n hx hb d_Web_isAllowed_14 rfl (lv_at hl 0 rfl) ?_
  refine gf_Web_11 X hW  d_Web_isAllowed_15 ?_
  refine lv_iload_n hx hb d_Web_isAllowed_18 rfl (lv_at hl 1 rfl) ?_
  refine gy_aP (i := P) hx hb hK hW (by omega) hnp rfl d_Web_isAllowed_19 ?_
  refine gf_Web_56 (z := nI yy) X hW (by unfold gp; omega) (gk_p0 P) (gv_0_2 (by omega)) (gi_0_2 _) h2 d_Web_isAllowed_20 ?_
  refine gc_iV (As := [.int (nI yy)]) (b := ad (4 + 3 * hh)) (rest := []) X cw_Web_59 (C_Host_allowsPath l (hh := hh) (n := rc) (y1 := yy) hh6 h3 hrc hy2 (fun i _ => rfl) (fun i _ => rfl) h4) hW hS (gW_recv (ci := 2) (fs := gf2 ad (4 + 3 * hh)) hK hW (by omega) (fun σ τ => ge_2 (gk_h0 (by omega)) σ τ) (r := (R_Host, F_Host, 3)) rfl) ⟨Nat.le_trans (Nat.le_of_ble_eq_true rfl) hR.1, Nat.le_trans (Nat.le_of_ble_eq_true rfl) hR.2⟩ rfl hl.1 rfl (Nat.le_of_ble_eq_true rfl) d_Web_isAllowed_23 ⟨Nat.zero_le _, Nat.zero_le _⟩ (fun r t H locs hp hW hS => ?_)
  obtain ⟨rfl, hr9⟩ := hp
  rw [← sAlw_ca (np := np) h1 hh6 h2 hy2 h3 hrc h4] at hr9
  subst hr9
  have hW : gW g A ad np (a, x, o) v H := hW
  refine hret (bI (sAlw a P)) ((a, x, o), v) _ _ _ _ ?_ hW hS d_Web_isAllowed_26
  exact ⟨rfl, rfl⟩
theorem C_Web_isAllowed (l : Launch) {g : gG} {A : Nat → Prop} {ad : Nat → Nat} {np : Nat} {a x : gA} {o : gL} {v : gS} {P : Nat} (hw : WFw np a) (hP : P < np) : CtI l y_Web_isAllowed b_Web_isAllowed 2 .boolean 2 [.ref (ad 1), .int (nI P)] g A ad np (a, x, o) v (fun r t => t = ((a, x, o), v) ∧ r = bI (sAlw a P)) := mkI (by decide) rfl (Nat.le_of_ble_eq_true rfl) (fun r t h => h.2 ▸ bI_nar _) (B_Web_isAllowed l hw hP)

set_option maxHeartbeats 400000 in
set_option maxRecDepth 20000 in
theorem B_Web_isTaken (l : Launch) {g : gG} {A : Nat → Prop} {ad : Nat → Nat} {np : Nat} {a x : gA} {o : gL} {v : gS} {w1 w2 : Int32} (hw : WFw np a) : BdI l b_Web_isTaken 4 R_Web 0 [.ref (ad 1), .int w1, .int w2] g A ad np (a, x, o) v (fun r t => t = ((a, x, o), v) ∧ r = bI (sDup a w1 w2 np)) := by
  intro p e R s m args below meth c Q ls X hW hS hR hl hret
  have hx := X.1.1
  have hb := X.1.2.1
  have hml := X.1.2.2.1
  have hown := X.1.2.2.2.1
  have hts := X.1.2.2.2.2
  have hK := X.2.1
  have hl : lv_has ls 4 [(0, .ref (ad 1)), (1, .int w1), (2, .int w2)] := hl
  have hnp := hw.1
  have hpc := hw.2.1
  refine lv_iconst (v := 0) hx hb d_Web_isTaken_0 (by decide) ?_
  refine lv_istore_n hx hb d_Web_isTaken_1 rfl hl (by decide) rfl (fun ls hl => ?_)
  have hl : lv_has ls 4 [(3, .int 0), (0, .ref (ad 1)), (1, .int w1), (2, .int w2)] := hl
  have lp2 : ∀ (fuel : Nat) (i : Nat) (ls : Array Slot) (H : Heap) (locs : List Loc), (i ≤ np) → (sDup a w1 w2 i = false) → np - i < fuel → lv_has ls 4 [(0, .ref (ad 1)), (1, .int w1), (2, .int w2), (3, .int (nI i))] → gW g A ad np (a, x, o) v H → va_S A s.heap H locs → W p l e R s m args below meth c H locs 0 0 Q (F0 m 2 ls []) := by
    intro fuel
    induction fuel with
    | zero => intro i ls H locs _ _ hfu; exact absurd hfu (Nat.not_lt_zero _)
    | succ fuel ih2 =>
      intro i ls H locs hi hd hfu hl hW hS
      refine lv_iload_n hx hb d_Web_isTaken_2 rfl (lv_at hl 3 rfl) ?_
      refine lv_aload_n hx hb d_Web_isTaken_3 rfl (lv_at hl 0 rfl) ?_
      refine gf_Web_33 (z := nI np) X hW  (gv_0_0_0 _) rfl hpc d_Web_isTaken_4 ?_
      refine lv_icmp_ge (tgt := 44) hx hb d_Web_isTaken_7 (by decide) (fun h7 => ?_) (fun h7 => ?_)
      · -- 7 t
        have h7 : np ≤ i := (nI_leI (a := np) (b := i) (by omega) (by omega)).mp h7
        refine lv_iconst (v := 0) hx hb d_Web_isTaken_44 (by decide) ?_
        refine hret 0 ((a, x, o), v) _ _ _ _ ?_ hW hS d_Web_isTaken_45
        exact ⟨rfl, by rw [show np = i by omega, hd]; rfl⟩
      · -- 7 f
        have h7 : i < np := Nat.lt_of_not_le fun q => h7 ((nI_leI (a := np) (b := i) (by omega) (by omega)).mpr q)
        refine lv_aload_n hx hb d_Web_isTaken_10 rfl (lv_at hl 0 rfl) ?_
        refine gf_Web_11 X hW  d_Web_isTaken_11 ?_
        refine lv_iload_n hx hb d_Web_isTaken_14 rfl (lv_at hl 3 rfl) ?_
        refine gy_aP (i := i) hx hb hK hW (by omega) hnp rfl d_Web_isTaken_15 ?_
        refine gf_Web_53 (z := a 1 i) X hW (by unfold gp; omega) (gk_p0 i) (gv_0_1 (by omega)) (gi_0_1 _) rfl d_Web_isTaken_16 ?_
        refine lv_iload_n hx hb d_Web_isTaken_19 rfl (lv_at hl 1 rfl) ?_
        refine lv_icmp_ne (tgt := 38) hx hb d_Web_isTaken_20 (by decide) (fun h20 => ?_) (fun h20 => ?_)
        · -- 20 t
          refine lv_iinc (v := nI (i + 1)) (k := 3) hx hb d_Web_isTaken_38 hl rfl (nI_inc i) (by decide) rfl (fun ls hl => ?_)
          have hl : lv_has ls 4 [(3, .int (nI (i + 1))), (0, .ref (ad 1)), (1, .int w1), (2, .int w2)] := hl
          refine lv_goto (tgt := 2) hx hb d_Web_isTaken_41 (by decide) ?_
          exact ih2 (i + 1) _ _ _ (by omega) (sDup_step hd (fun q => by first | exact h20 q.1 | exact h33 q.2)) (by omega) (lv_sub hl [1, 2, 3, 0] rfl) hW hS
        · -- 20 f
          refine lv_aload_n hx hb d_Web_isTaken_23 rfl (lv_at hl 0 rfl) ?_
          refine gf_Web_11 X hW  d_Web_isTaken_24 ?_
          refine lv_iload_n hx hb d_Web_isTaken_27 rfl (lv_at hl 3 rfl) ?_
          refine gy_aP (i := i) hx hb hK hW (by omega) hnp rfl d_Web_isTaken_28 ?_
          refine gf_Web_56 (z := a 2 i) X hW (by unfold gp; omega) (gk_p0 i) (gv_0_2 (by omega)) (gi_0_2 _) rfl d_Web_isTaken_29 ?_
          refine lv_iload_n hx hb d_Web_isTaken_32 rfl (lv_at hl 2 rfl) ?_
          refine lv_icmp_ne (tgt := 38) hx hb d_Web_isTaken_33 (by decide) (fun h33 => ?_) (fun h33 => ?_)
          · -- 33 t
            refine lv_iinc (v := nI (i + 1)) (k := 3) hx hb d_Web_isTaken_38 hl rfl (nI_inc i) (by decide) rfl (fun ls hl => ?_)
            have hl : lv_has ls 4 [(3, .int (nI (i + 1))), (0, .ref (ad 1)), (1, .int w1), (2, .int w2)] := hl
            refine lv_goto (tgt := 2) hx hb d_Web_isTaken_41 (by decide) ?_
            exact ih2 (i + 1) _ _ _ (by omega) (sDup_step hd (fun q => by first | exact h20 q.1 | exact h33 q.2)) (by omega) (lv_sub hl [1, 2, 3, 0] rfl) hW hS
          · -- 33 f
            refine lv_iconst (v := 1) hx hb d_Web_isTaken_36 (by decide) ?_
            refine hret 1 ((a, x, o), v) _ _ _ _ ?_ hW hS d_Web_isTaken_37
            exact ⟨rfl, by rw [sDup_hit h20 h33 (show i < np by omega)]; rfl⟩
  exact lp2 _ 0 _ _ _ (Nat.zero_le _) rfl (Nat.lt_succ_self _) (lv_sub hl [1, 2, 3, 0] rfl) hW hS
theorem C_Web_isTaken (l : Launch) {g : gG} {A : Nat → Prop} {ad : Nat → Nat} {np : Nat} {a x : gA} {o : gL} {v : gS} {w1 w2 : Int32} (hw : WFw np a) : CtI l y_Web_isTaken b_Web_isTaken 4 .boolean 0 [.ref (ad 1), .int w1, .int w2] g A ad np (a, x, o) v (fun r t => t = ((a, x, o), v) ∧ r = bI (sDup a w1 w2 np)) := mkI (by decide) rfl (Nat.le_of_ble_eq_true rfl) (fun r t h => h.2 ▸ bI_nar _) (B_Web_isTaken l hw)

set_option maxHeartbeats 400000 in
set_option maxRecDepth 20000 in
theorem B_Page_comesBefore (l : Launch) {g : gG} {A : Nat → Prop} {ad : Nat → Nat} {np : Nat} {a x : gA} {o : gL} {v : gS} {P Q1 : Nat} (hP : P < np) (hQ : Q1 < np) : BdI l b_Page_comesBefore 2 R_Page 0 [.ref (ad (gp P)), .ref (ad (gp Q1))] g A ad np (a, x, o) v (fun r t => t = ((a, x, o), v) ∧ r = bI (sBef a P Q1)) := by
  intro p e R s m args below meth c Q ls X hW hS hR hl hret
  have hx := X.1.1
  have hb := X.1.2.1
  have hml := X.1.2.2.1
  have hown := X.1.2.2.2.1
  have hts := X.1.2.2.2.2
  have hK := X.2.1
  have hl : lv_has ls 2 [(0, .ref (ad (gp P))), (1, .ref (ad (gp Q1)))] := hl
  refine lv_aload_n hx hb d_Page_comesBefore_0 rfl (lv_at hl 0 rfl) ?_
  refine gf_Page_9 (z := a 1 P) X hW (by unfold gp; omega) (gk_p0 P) (gv_0_1 (by omega)) (gi_0_1 _) rfl d_Page_comesBefore_1 ?_
  refine lv_aload_n hx hb d_Page_comesBefore_4 rfl (lv_at hl 1 rfl) ?_
  refine gf_Page_9 (z := a 1 Q1) X hW (by unfold gp; omega) (gk_p0 Q1) (gv_0_1 (by omega)) (gi_0_1 _) rfl d_Page_comesBefore_5 ?_
  refine lv_icmp_eq (tgt := 30) hx hb d_Page_comesBefore_8 (by decide) (fun h8 => ?_) (fun h8 => ?_)
  · -- 8 t
    refine lv_aload_n hx hb d_Page_comesBefore_30 rfl (lv_at hl 0 rfl) ?_
    refine gf_Page_15 (z := a 2 P) X hW (by unfold gp; omega) (gk_p0 P) (gv_0_2 (by omega)) (gi_0_2 _) rfl d_Page_comesBefore_31 ?_
    refine lv_aload_n hx hb d_Page_comesBefore_34 rfl (lv_at hl 1 rfl) ?_
    refine gf_Page_15 (z := a 2 Q1) X hW (by unfold gp; omega) (gk_p0 Q1) (gv_0_2 (by omega)) (gi_0_2 _) rfl d_Page_comesBefore_35 ?_
    refine lv_icmp_ge (tgt := 45) hx hb d_Page_comesBefore_38 (by decide) (fun h38 => ?_) (fun h38 => ?_)
    · -- 38 t
      refine lv_iconst (v := 0) hx hb d_Page_comesBefore_45 (by decide) ?_
      refine hret 0 ((a, x, o), v) _ _ _ _ ?_ hW hS d_Page_comesBefore_46
      unfold sBef
      first | exact ⟨rfl, by rw [if_neg h8, decide_eq_false (Int32.not_lt.mpr h19)]; rfl⟩ | exact ⟨rfl, by rw [if_pos h8, decide_eq_false (Int32.not_lt.mpr h38)]; rfl⟩
    · -- 38 f
      refine lv_iconst (v := 1) hx hb d_Page_comesBefore_41 (by decide) ?_
      refine lv_goto (tgt := 46) hx hb d_Page_comesBefore_42 (by decide) ?_
      refine hret 1 ((a, x, o), v) _ _ _ _ ?_ hW hS d_Page_comesBefore_46
      unfold sBef
      first | exact ⟨rfl, by rw [if_neg h8, decide_eq_true (Int32.not_le.mp h19)]; rfl⟩ | exact ⟨rfl, by rw [if_pos h8, decide_eq_true (Int32.not_le.mp h38)]; rfl⟩
  · -- 8 f
    refine lv_aload_n hx hb d_Page_comesBefore_11 rfl (lv_at hl 0 rfl) ?_
    refine gf_Page_9 (z := a 1 P) X hW (by unfold gp; omega) (gk_p0 P) (gv_0_1 (by omega)) (gi_0_1 _) rfl d_Page_comesBefore_12 ?_
    refine lv_aload_n hx hb d_Page_comesBefore_15 rfl (lv_at hl 1 rfl) ?_
    refine gf_Page_9 (z := a 1 Q1) X hW (by unfold gp; omega) (gk_p0 Q1) (gv_0_1 (by omega)) (gi_0_1 _) rfl d_Page_comesBefore_16 ?_
    refine lv_icmp_ge (tgt := 26) hx hb d_Page_comesBefore_19 (by decide) (fun h19 => ?_) (fun h19 => ?_)
    · -- 19 t
      refine lv_iconst (v := 0) hx hb d_Page_comesBefore_26 (by decide) ?_
      refine lv_goto (tgt := 46) hx hb d_Page_comesBefore_27 (by decide) ?_
      refine hret 0 ((a, x, o), v) _ _ _ _ ?_ hW hS d_Page_comesBefore_46
      unfold sBef
      first | exact ⟨rfl, by rw [if_neg h8, decide_eq_false (Int32.not_lt.mpr h19)]; rfl⟩ | exact ⟨rfl, by rw [if_pos h8, decide_eq_false (Int32.not_lt.mpr h38)]; rfl⟩
    · -- 19 f
      refine lv_iconst (v := 1) hx hb d_Page_comesBefore_22 (by decide) ?_
      refine lv_goto (tgt := 46) hx hb d_Page_comesBefore_23 (by decide) ?_
      refine hret 1 ((a, x, o), v) _ _ _ _ ?_ hW hS d_Page_comesBefore_46
      unfold sBef
      first | exact ⟨rfl, by rw [if_neg h8, decide_eq_true (Int32.not_le.mp h19)]; rfl⟩ | exact ⟨rfl, by rw [if_pos h8, decide_eq_true (Int32.not_le.mp h38)]; rfl⟩
theorem C_Page_comesBefore (l : Launch) {g : gG} {A : Nat → Prop} {ad : Nat → Nat} {np : Nat} {a x : gA} {o : gL} {v : gS} {P Q1 : Nat} (hP : P < np) (hQ : Q1 < np) : CtI l y_Page_comesBefore b_Page_comesBefore 2 .boolean 0 [.ref (ad (gp P)), .ref (ad (gp Q1))] g A ad np (a, x, o) v (fun r t => t = ((a, x, o), v) ∧ r = bI (sBef a P Q1)) := mkI (by decide) rfl (Nat.le_of_ble_eq_true rfl) (fun r t h => h.2 ▸ bI_nar _) (B_Page_comesBefore l hP hQ)

set_option maxHeartbeats 400000 in
set_option maxRecDepth 20000 in
theorem B_Page_placesOf (l : Launch) {g : gG} {A : Nat → Prop} {ad : Nat → Nat} {np : Nat} {a x : gA} {o : gL} {v : gS} {P n : Nat} {w1 w2 : Int32} {f : Nat → Int32} (hP : P < np) (hn : a 5 P = nI n) (hn8 : n ≤ 8) (hf : ∀ i, i < 8 → a 4 (8 * P + i) = f i) : BdI l b_Page_placesOf 6 R_Page 1 [.ref (ad (gp P)), .int w1, .int w2] g A ad np (a, x, o) v (fun r t => t = ((a, x, o), v) ∧ r = nI (pCt f w1 w2 n)) := by
  intro p e R s m args below meth c Q ls X hW hS hR hl hret
  have hx := X.1.1
  have hb := X.1.2.1
  have hml := X.1.2.2.1
  have hown := X.1.2.2.2.1
  have hts := X.1.2.2.2.2
  have hK := X.2.1
  have hl : lv_has ls 6 [(0, .ref (ad (gp P))), (1, .int w1), (2, .int w2)] := hl
  refine lv_iconst (v := 0) hx hb d_Page_placesOf_0 (by decide) ?_
  refine lv_istore_n hx hb d_Page_placesOf_1 rfl hl (by decide) rfl (fun ls hl => ?_)
  have hl : lv_has ls 6 [(3, .int 0), (0, .ref (ad (gp P))), (1, .int w1), (2, .int w2)] := hl
  refine lv_iconst (v := 0) hx hb d_Page_placesOf_2 (by decide) ?_
  refine lv_istore hx hb d_Page_placesOf_3 hl (by decide) rfl (fun ls hl => ?_)
  have hl : lv_has ls 6 [(4, .int 0), (3, .int 0), (0, .ref (ad (gp P))), (1, .int w1), (2, .int w2)] := hl
  have lp5 : ∀ (fuel : Nat) (i : Nat) (ls : Array Slot) (H : Heap) (locs : List Loc), (i ≤ n) → n - i < fuel → lv_has ls 6 [(0, .ref (ad (gp P))), (1, .int w1), (2, .int w2), (3, .int (nI (pCt f w1 w2 i))), (4, .int (nI i))] → gW g A ad np (a, x, o) v H → va_S A s.heap H locs → W p l e R s m args below meth c H locs 0 0 Q (F0 m 5 ls []) := by
    intro fuel
    induction fuel with
    | zero => intro i ls H locs _ hfu; exact absurd hfu (Nat.not_lt_zero _)
    | succ fuel ih5 =>
      intro i ls H locs hi hfu hl hW hS
      refine lv_iload hx hb d_Page_placesOf_5 (lv_at hl 4 rfl) ?_
      refine lv_aload_n hx hb d_Page_placesOf_7 rfl (lv_at hl 0 rfl) ?_
      refine gf_Page_23 X hW (by unfold gp; omega) (gk_p0 P) d_Page_placesOf_8 ?_
      refine gf_Page_42 (z := nI n) X hW (by unfold gp; omega) (gk_p1 P) (gv_0_5 (by omega)) (gi_0_5 _) hn d_Page_placesOf_11 ?_
      refine lv_icmp_ge (tgt := 49) hx hb d_Page_placesOf_14 (by decide) (fun h14 => ?_) (fun h14 => ?_)
      · -- 14 t
        have h14 : n ≤ i := (nI_leI (a := n) (b := i) (by omega) (by omega)).mp h14
        refine lv_iload_n hx hb d_Page_placesOf_49 rfl (lv_at hl 3 rfl) ?_
        refine hret (nI (pCt f w1 w2 i)) ((a, x, o), v) _ _ _ _ ?_ hW hS d_Page_placesOf_50
        exact ⟨rfl, by rw [show n = i by omega]⟩
      · -- 14 f
        have h14 : i < n := Nat.lt_of_not_le fun q => h14 ((nI_leI (a := n) (b := i) (by omega) (by omega)).mpr q)
        refine lv_aload_n hx hb d_Page_placesOf_17 rfl (lv_at hl 0 rfl) ?_
        refine gf_Page_23 X hW (by unfold gp; omega) (gk_p0 P) d_Page_placesOf_18 ?_
        refine lv_iload hx hb d_Page_placesOf_21 (lv_at hl 4 rfl) ?_
        refine gc_iV (As := [.int (nI i)]) (b := ad (gp P + 1)) (rest := []) X cw_Page_45 (C_Row_at l (u := (a, x, o)) (v := v) (x := nI i) (gRow_b hP) hn hn8 hf) hW hS (gW_recv (ci := 3) (fs := gf3 ad (gp P + 1)) hK hW (by unfold gp; omega) (fun σ τ => ge_3 (gk_p1 P) σ τ) (r := (R_Row, F_Row, 2)) rfl) ⟨Nat.le_trans (Nat.le_of_ble_eq_true rfl) hR.1, Nat.le_trans (Nat.le_of_ble_eq_true rfl) hR.2⟩ rfl hl.1 rfl (Nat.le_of_ble_eq_true rfl) d_Page_placesOf_23 ⟨Nat.zero_le _, Nat.zero_le _⟩ (fun r t H locs hp hW hS => ?_)
        obtain ⟨rfl, hr9⟩ := hp
        rw [at_in (by omega) (by omega)] at hr9
        subst hr9
        have hW : gW g A ad np (a, x, o) v H := hW
        refine lv_istore hx hb d_Page_placesOf_26 hl (by decide) rfl (fun ls hl => ?_)
        have hl : lv_has ls 6 [(5, .int (f i)), (0, .ref (ad (gp P))), (1, .int w1), (2, .int w2), (3, .int (nI (pCt f w1 w2 i))), (4, .int (nI i))] := hl
        refine lv_iload hx hb d_Page_placesOf_28 (lv_at hl 0 rfl) ?_
        refine lv_iload_n hx hb d_Page_placesOf_30 rfl (lv_at hl 2 rfl) ?_
        refine lv_icmp_eq (tgt := 40) hx hb d_Page_placesOf_31 (by decide) (fun h31 => ?_) (fun h31 => ?_)
        · -- 31 t
          refine lv_iinc (v := nI (pCt f w1 w2 i + 1)) (k := 4) hx hb d_Page_placesOf_40 hl rfl (nI_inc (pCt f w1 w2 i)) (by decide) rfl (fun ls hl => ?_)
          have hl : lv_has ls 6 [(3, .int (nI (pCt f w1 w2 i + 1))), (5, .int (f i)), (0, .ref (ad (gp P))), (1, .int w1), (2, .int w2), (4, .int (nI i))] := hl
          refine lv_iinc (v := nI (i + 1)) (k := 5) hx hb d_Page_placesOf_43 hl rfl (nI_inc i) (by decide) rfl (fun ls hl => ?_)
          have hl : lv_has ls 6 [(4, .int (nI (i + 1))), (3, .int (nI (pCt f w1 w2 i + 1))), (5, .int (f i)), (0, .ref (ad (gp P))), (1, .int w1), (2, .int w2)] := hl
          refine lv_goto (tgt := 5) hx hb d_Page_placesOf_46 (by decide) ?_
          have e9 : pCt f w1 w2 (i + 1) = _ := pCt_y (by first | exact Or.inl h31 | exact Or.inr h37)
          exact ih5 (i + 1) _ _ _ (by omega) (by omega) (by rw [e9]; exact (lv_sub hl [3, 4, 5, 1, 0] rfl)) hW hS
        · -- 31 f
          refine lv_iload hx hb d_Page_placesOf_34 (lv_at hl 0 rfl) ?_
          refine lv_iload_n hx hb d_Page_placesOf_36 rfl (lv_at hl 3 rfl) ?_
          refine lv_icmp_ne (tgt := 43) hx hb d_Page_placesOf_37 (by decide) (fun h37 => ?_) (fun h37 => ?_)
          · -- 37 t
            refine lv_iinc (v := nI (i + 1)) (k := 5) hx hb d_Page_placesOf_43 hl rfl (nI_inc i) (by decide) rfl (fun ls hl => ?_)
            have hl : lv_has ls 6 [(4, .int (nI (i + 1))), (5, .int (f i)), (0, .ref (ad (gp P))), (1, .int w1), (2, .int w2), (3, .int (nI (pCt f w1 w2 i)))] := hl
            refine lv_goto (tgt := 5) hx hb d_Page_placesOf_46 (by decide) ?_
            have e9 : pCt f w1 w2 (i + 1) = _ := pCt_n h31 h37
            exact ih5 (i + 1) _ _ _ (by omega) (by omega) (by rw [e9]; exact (lv_sub hl [2, 3, 4, 5, 0] rfl)) hW hS
          · -- 37 f
            refine lv_iinc (v := nI (pCt f w1 w2 i + 1)) (k := 4) hx hb d_Page_placesOf_40 hl rfl (nI_inc (pCt f w1 w2 i)) (by decide) rfl (fun ls hl => ?_)
            have hl : lv_has ls 6 [(3, .int (nI (pCt f w1 w2 i + 1))), (5, .int (f i)), (0, .ref (ad (gp P))), (1, .int w1), (2, .int w2), (4, .int (nI i))] := hl
            refine lv_iinc (v := nI (i + 1)) (k := 5) hx hb d_Page_placesOf_43 hl rfl (nI_inc i) (by decide) rfl (fun ls hl => ?_)
            have hl : lv_has ls 6 [(4, .int (nI (i + 1))), (3, .int (nI (pCt f w1 w2 i + 1))), (5, .int (f i)), (0, .ref (ad (gp P))), (1, .int w1), (2, .int w2)] := hl
            refine lv_goto (tgt := 5) hx hb d_Page_placesOf_46 (by decide) ?_
            have e9 : pCt f w1 w2 (i + 1) = _ := pCt_y (by first | exact Or.inl h31 | exact Or.inr h37)
            exact ih5 (i + 1) _ _ _ (by omega) (by omega) (by rw [e9]; exact (lv_sub hl [3, 4, 5, 1, 0] rfl)) hW hS
  exact lp5 _ 0 _ _ _ (Nat.zero_le _) (Nat.lt_succ_self _) (lv_sub hl [2, 3, 4, 1, 0] rfl) hW hS
theorem C_Page_placesOf (l : Launch) {g : gG} {A : Nat → Prop} {ad : Nat → Nat} {np : Nat} {a x : gA} {o : gL} {v : gS} {P n : Nat} {w1 w2 : Int32} {f : Nat → Int32} (hP : P < np) (hn : a 5 P = nI n) (hn8 : n ≤ 8) (hf : ∀ i, i < 8 → a 4 (8 * P + i) = f i) : CtI l y_Page_placesOf b_Page_placesOf 6 .int 1 [.ref (ad (gp P)), .int w1, .int w2] g A ad np (a, x, o) v (fun r t => t = ((a, x, o), v) ∧ r = nI (pCt f w1 w2 n)) := mkI (by decide) rfl (Nat.le_of_ble_eq_true rfl) (fun _ _ _ => rfl) (B_Page_placesOf l hP hn hn8 hf)

