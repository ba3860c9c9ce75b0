/-! specs_rank2 -/
set_option maxHeartbeats 400000 in
set_option maxRecDepth 20000 in
theorem B_Rank_computeRanks (l : Launch) {g : gG} {A : Nat → Prop} {ad : Nat → Nat} {np : Nat} {a x : gA} {o : gL} {v : gS} {ng hp rr : Nat} (hw : WFw np a) (hng : a 0 25 = nI ng) (hd : dst (a 15) ng np) (hwx : WX np a x) (hhp : a 0 15 = nI hp) (hp4 : hp ≤ 4) (hrr : rr ≤ 12) : BdV l b_Rank_computeRanks 4 R_Rank 5 [.ref (ad 34), .int (nI rr)] g A ad np (a, x, o) v (fun t => ∃ x' o', t = ((a, x', o'), v) ∧ (∀ r j, r < 2 ∨ (r = 2 ∧ j = 0) → x' r j = x r j) ∧ DL a ng x' ∧ ∀ e, e < np → sIsD a (nI e) = true → o' 0 e = rkF a hp rr e) := by
  intro p e R s m args below meth c Q ls X hW hS hR hl hret
  have hx := X.1.1
  have hb := X.1.2.1
  have hml := X.1.2.2.1
  have hown := X.1.2.2.2.1
  have hts := X.1.2.2.2.2
  have hK := X.2.1
  have hl : lv_has ls 4 [(0, .ref (ad 34)), (1, .int (nI rr))] := hl
  have hnp := hw.1
  have hng32 := dst_le hd hnp
  have hcn : cn a 25 = ng := cn_of hng (by omega)
  have hm := dcN_le a ng
  refine lv_aload_n hx hb d_Rank_computeRanks_0 rfl (lv_at hl 0 rfl) ?_
  refine gc_vV (As := []) (b := ad 34) (rest := []) X cw_Rank_82 (C_Rank_listDocuments l (a := a) (x := x) (o := o) (v := v) hw hng hd hwx.2.2) hW hS (gW_recv (ci := 6) (fs := fun _ => gf6 ad) hK hW (by omega) (fun σ τ => ge_6 rfl σ τ) (r := (R_Rank, F_Rank, 8)) rfl) ⟨Nat.le_trans (Nat.le_of_ble_eq_true rfl) hR.1, Nat.le_trans (Nat.le_of_ble_eq_true rfl) hR.2⟩ rfl hl.1 rfl (Nat.le_of_ble_eq_true rfl) d_Rank_computeRanks_1 ⟨Nat.zero_le _, Nat.zero_le _⟩ (fun t H locs hp hW hS => ?_)
  obtain ⟨x', rfl, hx1, hDL⟩ := hp
  have hW : gW g A ad np (a, x', o) v H := hW
  refine lv_iconst (v := 0) hx hb d_Rank_computeRanks_4 (by decide) ?_
  refine lv_istore_n hx hb d_Rank_computeRanks_5 rfl hl (by decide) rfl (fun ls hl => ?_)
  have hl : lv_has ls 4 [(2, .int 0), (0, .ref (ad 34)), (1, .int (nI rr))] := hl
  have lp6 : ∀ (fuel : Nat) (j : Nat) (x1 : gA) (o1 : gL) (ls : Array Slot) (H : Heap) (locs : List Loc), (j ≤ dcN a ng) → ((∀ r j, r < 2 ∨ (r = 2 ∧ j = 0) → x1 r j = x r j)) → (DL a ng x1) → (∀ i, i < ng → ∀ e, a 15 i = nI e → sIsD a (nI e) = true → e < np → dcN a i < j → LE a hp x1 e ∧ o1 0 e = 1000000) → dcN a ng - j < fuel → lv_has ls 4 [(0, .ref (ad 34)), (1, .int (nI rr)), (2, .int (nI j))] → gW g A ad np (a, x1, o1) v H → va_S A s.heap H locs → W p l e R s m args below meth c H locs 0 0 Q (F0 m 6 ls []) := by
    intro fuel
    induction fuel with
    | zero => intro j x1 o1 ls H locs _ _ _ _ hfu; exact absurd hfu (Nat.not_lt_zero _)
    | succ fuel ih6 =>
      intro j x1 o1 ls H locs hj hxk hDL hLJ hfu hl hW hS
      refine lv_iload_n hx hb d_Rank_computeRanks_6 rfl (lv_at hl 2 rfl) ?_
      refine lv_aload_n hx hb d_Rank_computeRanks_7 rfl (lv_at hl 0 rfl) ?_
      refine gf_Rank_24 X hW  d_Rank_computeRanks_8 ?_
      refine gf_Rank_67 (z := nI (dcN a ng)) X hW (by omega) rfl (gv_1_2_1 _) rfl hDL.1 d_Rank_computeRanks_11 ?_
      refine lv_icmp_ge (tgt := 46) hx hb d_Rank_computeRanks_14 (by decide) (fun h14 => ?_) (fun h14 => ?_)
      · -- 14 t
        have h14 : (dcN a ng) ≤ j := (nI_leI (a := (dcN a ng)) (b := j) (by omega) (by omega)).mp h14
        have hLA : ∀ e, e < np → sIsD a (nI e) = true → LE a hp x1 e ∧ o1 0 e = 1000000 := fun e he hs => by
          obtain ⟨i, hi, ei⟩ := doc_ix hng hd hnp he hs
          exact hLJ i hi e ei hs he (by have := dcN_lt (show sIsD a (a 15 i) = true by rw [ei]; exact hs) hi; omega)
        refine lv_iconst (v := 0) hx hb d_Rank_computeRanks_46 (by decide) ?_
        refine lv_istore_n hx hb d_Rank_computeRanks_47 rfl hl (by decide) rfl (fun ls hl => ?_)
        have hl : lv_has ls 4 [(2, .int 0), (0, .ref (ad 34)), (1, .int (nI rr))] := hl
        have lp48 : ∀ (fuel : Nat) (r1 : Nat) (o3 : gL) (ls : Array Slot) (H : Heap) (locs : List Loc), (r1 ≤ rr) → (∀ e, e < np → sIsD a (nI e) = true → o3 0 e = rkF a hp r1 e) → rr - r1 < fuel → lv_has ls 4 [(0, .ref (ad 34)), (1, .int (nI rr)), (2, .int (nI r1))] → gW g A ad np (a, x1, o3) v H → va_S A s.heap H locs → W p l e R s m args below meth c H locs 0 0 Q (F0 m 48 ls []) := by
          intro fuel
          induction fuel with
          | zero => intro r1 o3 ls H locs _ _ hfu; exact absurd hfu (Nat.not_lt_zero _)
          | succ fuel ih48 =>
            intro r1 o3 ls H locs hr1 hR3 hfu hl hW hS
            refine lv_iload_n hx hb d_Rank_computeRanks_48 rfl (lv_at hl 2 rfl) ?_
            refine lv_iload_n hx hb d_Rank_computeRanks_49 rfl (lv_at hl 1 rfl) ?_
            refine lv_icmp_ge (tgt := 63) hx hb d_Rank_computeRanks_50 (by decide) (fun h50 => ?_) (fun h50 => ?_)
            · -- 50 t
              have h50 : rr ≤ r1 := (nI_leI (a := rr) (b := r1) (by omega) (by omega)).mp h50
              refine hret ((a, x1, o3), v) _ _ _ _ ?_ hW hS d_Rank_computeRanks_63
              exact ⟨x1, o3, rfl, hxk, hDL, by rw [show rr = r1 by omega]; exact hR3⟩
            · -- 50 f
              have h50 : r1 < rr := Nat.lt_of_not_le fun q => h50 ((nI_leI (a := rr) (b := r1) (by omega) (by omega)).mpr q)
              refine lv_aload_n hx hb d_Rank_computeRanks_53 rfl (lv_at hl 0 rfl) ?_
              refine gc_vV (As := []) (b := ad 34) (rest := []) X cw_Rank_90 (C_Rank_playRound l (a := a) (x := x1) (o := o3) (v := v) (hp := hp) (rk := rkF a hp r1) hw hng hd hDL (fun e he hs => (hLA e he hs).1) hR3) hW hS (gW_recv (ci := 6) (fs := fun _ => gf6 ad) hK hW (by omega) (fun σ τ => ge_6 rfl σ τ) (r := (R_Rank, F_Rank, 8)) rfl) ⟨Nat.le_trans (Nat.le_of_ble_eq_true rfl) hR.1, Nat.le_trans (Nat.le_of_ble_eq_true rfl) hR.2⟩ rfl hl.1 rfl (Nat.le_of_ble_eq_true rfl) d_Rank_computeRanks_54 ⟨Nat.zero_le _, Nat.zero_le _⟩ (fun t H locs hp hW hS => ?_)
              obtain ⟨o', rfl, hO⟩ := hp
              have hW : gW g A ad np (a, x1, o') v H := hW
              refine lv_iinc (v := nI (r1 + 1)) (k := 2) hx hb d_Rank_computeRanks_57 hl rfl (nI_inc r1) (by decide) rfl (fun ls hl => ?_)
              have hl : lv_has ls 4 [(2, .int (nI (r1 + 1))), (0, .ref (ad 34)), (1, .int (nI rr))] := hl
              refine lv_goto (tgt := 48) hx hb d_Rank_computeRanks_60 (by decide) ?_
              exact ih48 (r1 + 1) o' _ _ _ (by omega) (fun e he hs => by rw [hO e he hs]; show _ = _ + _ * smF a hp (rkF a hp r1) e (cn a 25) / _; rw [hcn]) (by omega) (lv_sub hl [1, 2, 0] rfl) hW hS
        exact lp48 _ 0 o1 _ _ _ (Nat.zero_le _) (fun e he hs => (hLA e he hs).2) (Nat.lt_succ_self _) (lv_sub hl [1, 2, 0] rfl) hW hS
      · -- 14 f
        have h14 : j < (dcN a ng) := Nat.lt_of_not_le fun q => h14 ((nI_leI (a := (dcN a ng)) (b := j) (by omega) (by omega)).mpr q)
        obtain ⟨i0, e0, hi0, he0, ee0, hs0, hdc0, hx30⟩ := DL_at hDL hd (show j < dcN a ng by omega)
        refine lv_aload_n hx hb d_Rank_computeRanks_17 rfl (lv_at hl 0 rfl) ?_
        refine gf_Rank_24 X hW  d_Rank_computeRanks_18 ?_
        refine lv_iload_n hx hb d_Rank_computeRanks_21 rfl (lv_at hl 2 rfl) ?_
        refine gc_iV (As := [.int (nI j)]) (b := ad 35) (rest := []) X cw_Rank_71 (C_Row_at l (u := (a, x1, o1)) (v := v) (x := nI j) (n := dcN a ng) (f := x1 3) (gRow_35 np) hDL.1 (by omega) (fun i _ => rfl)) hW hS (gW_recv (ci := 3) (fs := gf3 ad 35) hK hW (by omega) (fun σ τ => ge_3 rfl σ τ) (r := (R_Row, F_Row, 2)) rfl) ⟨Nat.le_trans (Nat.le_of_ble_eq_true rfl) hR.1, Nat.le_trans (Nat.le_of_ble_eq_true rfl) hR.2⟩ rfl hl.1 rfl (Nat.le_of_ble_eq_true rfl) d_Rank_computeRanks_22 ⟨Nat.zero_le _, Nat.zero_le _⟩ (fun r t H locs hp hW hS => ?_)
        obtain ⟨rfl, hr9⟩ := hp
        rw [at_in (by omega) (by omega), hx30] at hr9
        subst hr9
        have hW : gW g A ad np (a, x1, o1) v H := hW
        refine lv_istore_n hx hb d_Rank_computeRanks_25 rfl hl (by decide) rfl (fun ls hl => ?_)
        have hl : lv_has ls 4 [(3, .int (nI e0)), (0, .ref (ad 34)), (1, .int (nI rr)), (2, .int (nI j))] := hl
        refine lv_aload_n hx hb d_Rank_computeRanks_26 rfl (lv_at hl 1 rfl) ?_
        refine gf_Rank_37 X hW  d_Rank_computeRanks_27 ?_
        refine lv_iload_n hx hb d_Rank_computeRanks_30 rfl (lv_at hl 0 rfl) ?_
        refine lv_ldc2 (v := 1000000) hx hb hown (hts _ w_Rank_constl_85) d_Rank_computeRanks_31 ?_
        refine gy_lsC (w := 1000000) (k := 0) hx hb hK hW hS (by decide) (vp_in_nI (by omega) (by decide)) d_Rank_computeRanks_34 (fun H locs hW hS => ?_)
        have hW : gW g A ad np (a, x1, guL o1 0 (nI e0).toNatClampNeg 1000000) v H := hW
        rw [nI_clamp (by omega)] at hW
        have hwx1 : WX np a x1 := WX_x hxk ⟨_, by omega, hDL.1⟩ hwx
        refine lv_aload_n hx hb d_Rank_computeRanks_35 rfl (lv_at hl 1 rfl) ?_
        refine lv_iload_n hx hb d_Rank_computeRanks_36 rfl (lv_at hl 0 rfl) ?_
        refine gc_vV (As := [.int (nI e0)]) (b := ad 34) (rest := []) X cw_Rank_87 (C_Rank_followLinks l (a := a) (x := x1) (o := guL o1 0 e0 1000000) (v := v) (e1 := e0) hw hng hd hwx1 hhp hp4 he0) hW hS (gW_recv (ci := 6) (fs := fun _ => gf6 ad) hK hW (by omega) (fun σ τ => ge_6 rfl σ τ) (r := (R_Rank, F_Rank, 8)) rfl) ⟨Nat.le_trans (Nat.le_of_ble_eq_true rfl) hR.1, Nat.le_trans (Nat.le_of_ble_eq_true rfl) hR.2⟩ rfl hl.1 rfl (Nat.le_of_ble_eq_true rfl) d_Rank_computeRanks_37 ⟨Nat.zero_le _, Nat.zero_le _⟩ (fun t H locs hp hW hS => ?_)
        obtain ⟨x2, rfl, hLE2, hx2⟩ := hp
        have hW : gW g A ad np (a, x2, guL o1 0 e0 1000000) v H := hW
        refine lv_iinc (v := nI (j + 1)) (k := 3) hx hb d_Rank_computeRanks_40 hl rfl (nI_inc j) (by decide) rfl (fun ls hl => ?_)
        have hl : lv_has ls 4 [(2, .int (nI (j + 1))), (3, .int (nI e0)), (0, .ref (ad 34)), (1, .int (nI rr))] := hl
        refine lv_goto (tgt := 6) hx hb d_Rank_computeRanks_43 (by decide) ?_
        exact ih6 (j + 1) x2 (guL o1 0 e0 1000000) _ _ _ (by omega) (fun r j h => (hx2 r j (by omega) (by omega)).trans (hxk r j h)) ⟨(hx2 2 1 (by omega) (by omega)).trans hDL.1, fun i hi hs => (hx2 3 _ (by omega) (by omega)).trans (hDL.2 i hi hs)⟩ (fun i hi e ei hs he h => by
              by_cases c : e = e0
              · subst c
                exact ⟨hLE2, by rw [guL_self]; exact pk_uLs⟩
              · have h9 := hLJ i hi e ei hs he (Nat.lt_of_le_of_ne (by omega) (fun q => c (by
                  have := dc_one (by rw [ei]; exact hs) (by rw [ee0]; exact hs0) (q.trans hdc0.symm)
                  subst this
                  exact (nI_eq (by omega) (by omega)).mp (ei.symm.trans ee0))))
                obtain ⟨lk, hlk5, hlk, -⟩ := (hw.2.2.1 e he).2.2.2.2
                have elk : lkN a e = lk := by unfold lkN; rw [hlk, nI_clamp (by omega)]
                refine ⟨⟨fun k hk => ?_, ?_⟩, ?_⟩
                · rw [hx2 4 _ (by omega) (by omega)]; exact h9.1.1 k hk
                · rw [hx2 5 e (by omega) (by omega)]; exact h9.1.2
                · rw [guL_self, pk_uLn c]; exact h9.2) (by omega) (lv_sub hl [2, 3, 0] rfl) hW hS
  exact lp6 _ 0 x' o _ _ _ (Nat.zero_le _) (fun r j h => hx1 r j (by omega) (by omega)) hDL (fun i _ e _ _ _ h => absurd h (Nat.not_lt_zero _)) (Nat.lt_succ_self _) (lv_sub hl [1, 2, 0] rfl) hW hS
theorem C_Rank_computeRanks (l : Launch) {g : gG} {A : Nat → Prop} {ad : Nat → Nat} {np : Nat} {a x : gA} {o : gL} {v : gS} {ng hp rr : Nat} (hw : WFw np a) (hng : a 0 25 = nI ng) (hd : dst (a 15) ng np) (hwx : WX np a x) (hhp : a 0 15 = nI hp) (hp4 : hp ≤ 4) (hrr : rr ≤ 12) : CtV l y_Rank_computeRanks b_Rank_computeRanks 4 5 [.ref (ad 34), .int (nI rr)] g A ad np (a, x, o) v (fun t => ∃ x' o', t = ((a, x', o'), v) ∧ (∀ r j, r < 2 ∨ (r = 2 ∧ j = 0) → x' r j = x r j) ∧ DL a ng x' ∧ ∀ e, e < np → sIsD a (nI e) = true → o' 0 e = rkF a hp rr e) := mkV (by decide) rfl (Nat.le_of_ble_eq_true rfl) (B_Rank_computeRanks l hw hng hd hwx hhp hp4 hrr)

set_option maxHeartbeats 400000 in
set_option maxRecDepth 20000 in
theorem B_Rank_computeScores (l : Launch) {g : gG} {A : Nat → Prop} {ad : Nat → Nat} {np : Nat} {a x : gA} {o : gL} {v : gS} {ng hp : Nat} {w1 w2 : Int32} (hw : WFw np a) (hng : a 0 25 = nI ng) (hd : dst (a 15) ng np) (hDL : DL a ng x) (hRK : ∀ e, e < np → sIsD a (nI e) = true → o 0 e = rkF a hp 8 e) : BdV l b_Rank_computeScores 5 R_Rank 2 [.ref (ad 34), .int w1, .int w2] g A ad np (a, x, o) v (fun t => ∃ o', t = ((a, x, o'), v) ∧ ∀ e, e < np → sIsD a (nI e) = true → o' 2 e = scF a hp w1 w2 e) := by
  intro p e R s m args below meth c Q ls X hW hS hR hl hret
  have hx := X.1.1
  have hb := X.1.2.1
  have hml := X.1.2.2.1
  have hown := X.1.2.2.2.1
  have hts := X.1.2.2.2.2
  have hK := X.2.1
  have hl : lv_has ls 5 [(0, .ref (ad 34)), (1, .int w1), (2, .int w2)] := hl
  have hnp := hw.1
  have hng32 := dst_le hd hnp
  have hcn : cn a 25 = ng := cn_of hng (by omega)
  have hm := dcN_le a ng
  refine lv_iconst (v := 0) hx hb d_Rank_computeScores_0 (by decide) ?_
  refine lv_istore_n hx hb d_Rank_computeScores_1 rfl hl (by decide) rfl (fun ls hl => ?_)
  have hl : lv_has ls 5 [(3, .int 0), (0, .ref (ad 34)), (1, .int w1), (2, .int w2)] := hl
  have lp2 : ∀ (fuel : Nat) (j : Nat) (o1 : gL) (ls : Array Slot) (H : Heap) (locs : List Loc), (j ≤ dcN a ng) → (o1 0 = o 0) → (∀ i, i < ng → ∀ e, a 15 i = nI e → sIsD a (nI e) = true → e < np → dcN a i < j → o1 2 e = scF a hp w1 w2 e) → dcN a ng - j < fuel → lv_has ls 5 [(0, .ref (ad 34)), (1, .int w1), (2, .int w2), (3, .int (nI j))] → gW g A ad np (a, x, o1) v H → va_S A s.heap H locs → W p l e R s m args below meth c H locs 0 0 Q (F0 m 2 ls []) := by
    intro fuel
    induction fuel with
    | zero => intro j o1 ls H locs _ _ _ hfu; exact absurd hfu (Nat.not_lt_zero _)
    | succ fuel ih2 =>
      intro j o1 ls H locs hj h0 hSJ hfu hl hW hS
      refine lv_iload_n hx hb d_Rank_computeScores_2 rfl (lv_at hl 3 rfl) ?_
      refine lv_aload_n hx hb d_Rank_computeScores_3 rfl (lv_at hl 0 rfl) ?_
      refine gf_Rank_24 X hW  d_Rank_computeScores_4 ?_
      refine gf_Rank_67 (z := nI (dcN a ng)) X hW (by omega) rfl (gv_1_2_1 _) rfl hDL.1 d_Rank_computeScores_7 ?_
      refine lv_icmp_ge (tgt := 60) hx hb d_Rank_computeScores_10 (by decide) (fun h10 => ?_) (fun h10 => ?_)
      · -- 10 t
        have h10 : (dcN a ng) ≤ j := (nI_leI (a := (dcN a ng)) (b := j) (by omega) (by omega)).mp h10
        refine hret ((a, x, o1), v) _ _ _ _ ?_ hW hS d_Rank_computeScores_60
        refine ⟨o1, rfl, fun e he hs => ?_⟩
        obtain ⟨i, hi, ei⟩ := doc_ix hng hd hnp he hs
        exact hSJ i hi e ei hs he (by have := dcN_lt (show sIsD a (a 15 i) = true by rw [ei]; exact hs) hi; omega)
      · -- 10 f
        have h10 : j < (dcN a ng) := Nat.lt_of_not_le fun q => h10 ((nI_leI (a := (dcN a ng)) (b := j) (by omega) (by omega)).mpr q)
        obtain ⟨i0, e0, hi0, he0, ee0, hs0, hdc0, hx30⟩ := DL_at hDL hd (show j < dcN a ng by omega)
        obtain ⟨wp, hwp8, hwp⟩ := (hw.2.2.1 e0 he0).2.2.2.1
        refine lv_aload_n hx hb d_Rank_computeScores_13 rfl (lv_at hl 0 rfl) ?_
        refine gf_Rank_24 X hW  d_Rank_computeScores_14 ?_
        refine lv_iload_n hx hb d_Rank_computeScores_17 rfl (lv_at hl 3 rfl) ?_
        refine gc_iV (As := [.int (nI j)]) (b := ad 35) (rest := []) X cw_Rank_71 (C_Row_at l (u := (a, x, o1)) (v := v) (x := nI j) (n := dcN a ng) (f := x 3) (gRow_35 np) hDL.1 (by omega) (fun i _ => rfl)) hW hS (gW_recv (ci := 3) (fs := gf3 ad 35) hK hW (by omega) (fun σ τ => ge_3 rfl σ τ) (r := (R_Row, F_Row, 2)) rfl) ⟨Nat.le_trans (Nat.le_of_ble_eq_true rfl) hR.1, Nat.le_trans (Nat.le_of_ble_eq_true rfl) hR.2⟩ rfl hl.1 rfl (Nat.le_of_ble_eq_true rfl) d_Rank_computeScores_18 ⟨Nat.zero_le _, Nat.zero_le _⟩ (fun r t H locs hp hW hS => ?_)
        obtain ⟨rfl, hr9⟩ := hp
        rw [at_in (by omega) (by omega), hx30] at hr9
        subst hr9
        have hW : gW g A ad np (a, x, o1) v H := hW
        refine lv_istore hx hb d_Rank_computeScores_21 hl (by decide) rfl (fun ls hl => ?_)
        have hl : lv_has ls 5 [(4, .int (nI e0)), (0, .ref (ad 34)), (1, .int w1), (2, .int w2), (3, .int (nI j))] := hl
        refine lv_aload_n hx hb d_Rank_computeScores_23 rfl (lv_at hl 1 rfl) ?_
        refine gf_Rank_44 X hW  d_Rank_computeScores_24 ?_
        refine lv_iload hx hb d_Rank_computeScores_27 (lv_at hl 0 rfl) ?_
        refine lv_aload_n hx hb d_Rank_computeScores_29 rfl (lv_at hl 1 rfl) ?_
        refine gf_Rank_9 X hW  d_Rank_computeScores_30 ?_
        refine gf_Rank_56 X hW  d_Rank_computeScores_33 ?_
        refine lv_iload hx hb d_Rank_computeScores_36 (lv_at hl 0 rfl) ?_
        refine gy_aP (i := e0) hx hb hK hW (by omega) hnp rfl d_Rank_computeScores_38 ?_
        refine lv_iload_n hx hb d_Rank_computeScores_39 rfl (lv_at hl 2 rfl) ?_
        refine lv_iload_n hx hb d_Rank_computeScores_40 rfl (lv_at hl 3 rfl) ?_
        refine gc_iV (As := [.int w1, .int w2]) (b := ad (gp e0)) (rest := [.int (nI e0), .ref (ad 73)]) X cw_Rank_93 (C_Page_placesOf l (a := a) (x := x) (o := o1) (v := v) (P := e0) (n := wp) (w1 := w1) (w2 := w2) (f := fun i => a 4 (8 * e0 + i)) he0 hwp hwp8 (fun i _ => rfl)) hW hS (gW_recv (ci := 4) (fs := gf4 g ad (gp e0)) hK hW (by unfold gp; omega) (fun σ τ => ge_4 (gk_p0 e0) σ τ) (r := (R_Page, F_Page, 6)) rfl) ⟨Nat.le_trans (Nat.le_of_ble_eq_true rfl) hR.1, Nat.le_trans (Nat.le_of_ble_eq_true rfl) hR.2⟩ rfl hl.1 rfl (Nat.le_of_ble_eq_true rfl) d_Rank_computeScores_41 ⟨Nat.zero_le _, Nat.zero_le _⟩ (fun r t H locs hp hW hS => ?_)
        obtain ⟨rfl, rfl⟩ := hp
        have hW : gW g A ad np (a, x, o1) v H := hW
        refine lv_i2l hx hb d_Rank_computeScores_44 rfl ?_
        refine lv_aload_n hx hb d_Rank_computeScores_45 rfl (lv_at hl 1 rfl) ?_
        refine gf_Rank_37 X hW  d_Rank_computeScores_46 ?_
        refine lv_iload hx hb d_Rank_computeScores_49 (lv_at hl 0 rfl) ?_
        refine gy_la (w := rkF a hp 8 e0) (k := 0) hx hb hK hW (by decide) (vp_in_nI (by omega) (by decide)) (by rw [nI_clamp (by omega), ← hRK e0 he0 hs0]; exact congrFun h0 e0) d_Rank_computeScores_51 ?_
        refine lv_lmul hx hb d_Rank_computeScores_52 ?_
        refine gy_lsC (w := ((nI (pCt (fun i => a 4 (8 * e0 + i)) w1 w2 wp)).toInt64) * (rkF a hp 8 e0)) (k := 2) hx hb hK hW hS (by decide) (vp_in_nI (by omega) (by decide)) d_Rank_computeScores_53 (fun H locs hW hS => ?_)
        have hW : gW g A ad np (a, x, guL o1 2 (nI e0).toNatClampNeg (((nI (pCt (fun i => a 4 (8 * e0 + i)) w1 w2 wp)).toInt64) * (rkF a hp 8 e0))) v H := hW
        refine lv_iinc (v := nI (j + 1)) (k := 4) hx hb d_Rank_computeScores_54 hl rfl (nI_inc j) (by decide) rfl (fun ls hl => ?_)
        have hl : lv_has ls 5 [(3, .int (nI (j + 1))), (4, .int (nI e0)), (0, .ref (ad 34)), (1, .int w1), (2, .int w2)] := hl
        refine lv_goto (tgt := 2) hx hb d_Rank_computeScores_57 (by decide) ?_
        rw [nI_clamp (by omega)] at hW
        have esc : scF a hp w1 w2 e0 = (nI (pCt (fun i => a 4 (8 * e0 + i)) w1 w2 wp)).toInt64 * rkF a hp 8 e0 := by unfold scF; rw [if_pos hs0, hwp, nI_clamp (by omega)]
        rw [← esc] at hW
        exact ih2 (j + 1) (guL o1 2 e0 (scF a hp w1 w2 e0)) _ _ _ (by omega) ((guL_ne (by decide)).trans h0) (fun i hi e ei hs he h => by rw [guL_self]; by_cases c : e = e0; subst c; exact pk_uLs; rw [pk_uLn c]; refine hSJ i hi e ei hs he (Nat.lt_of_le_of_ne (by omega) (fun q => c ?_)); have := dc_one (by rw [ei]; exact hs) (by rw [ee0]; exact hs0) (q.trans hdc0.symm); subst this; exact (nI_eq (by omega) (by omega)).mp (ei.symm.trans ee0)) (by omega) (lv_sub hl [2, 3, 4, 0] rfl) hW hS
  exact lp2 _ 0 o _ _ _ (Nat.zero_le _) rfl (fun i _ e _ _ _ h => absurd h (Nat.not_lt_zero _)) (Nat.lt_succ_self _) (lv_sub hl [1, 2, 3, 0] rfl) hW hS
theorem C_Rank_computeScores (l : Launch) {g : gG} {A : Nat → Prop} {ad : Nat → Nat} {np : Nat} {a x : gA} {o : gL} {v : gS} {ng hp : Nat} {w1 w2 : Int32} (hw : WFw np a) (hng : a 0 25 = nI ng) (hd : dst (a 15) ng np) (hDL : DL a ng x) (hRK : ∀ e, e < np → sIsD a (nI e) = true → o 0 e = rkF a hp 8 e) : CtV l y_Rank_computeScores b_Rank_computeScores 5 2 [.ref (ad 34), .int w1, .int w2] g A ad np (a, x, o) v (fun t => ∃ o', t = ((a, x, o'), v) ∧ ∀ e, e < np → sIsD a (nI e) = true → o' 2 e = scF a hp w1 w2 e) := mkV (by decide) rfl (Nat.le_of_ble_eq_true rfl) (B_Rank_computeScores l hw hng hd hDL hRK)

set_option maxHeartbeats 400000 in
set_option maxRecDepth 20000 in
theorem B_Rank_standsBefore (l : Launch) {g : gG} {A : Nat → Prop} {ad : Nat → Nat} {np : Nat} {a x : gA} {o : gL} {v : gS} {ng hp P Q1 : Nat} {w1 w2 : Int32} (hw : WFw np a) (hng : a 0 25 = nI ng) (hd : dst (a 15) ng np) (hSC : ∀ e, e < np → sIsD a (nI e) = true → o 2 e = scF a hp w1 w2 e) (hP : P < np) (hQ : Q1 < np) (hPd : sIsD a (nI P) = true) (hQd : sIsD a (nI Q1) = true) : BdI l b_Rank_standsBefore 3 R_Rank 1 [.ref (ad 34), .int (nI P), .int (nI Q1)] g A ad np (a, x, o) v (fun r t => t = ((a, x, o), v) ∧ r = bI (bfF a hp w1 w2 P Q1)) := by
  intro p e R s m args below meth c Q ls X hW hS hR hl hret
  have hx := X.1.1
  have hb := X.1.2.1
  have hml := X.1.2.2.1
  have hown := X.1.2.2.2.1
  have hts := X.1.2.2.2.2
  have hK := X.2.1
  have hl : lv_has ls 3 [(0, .ref (ad 34)), (1, .int (nI P)), (2, .int (nI Q1))] := hl
  have hnp := hw.1
  refine lv_aload_n hx hb d_Rank_standsBefore_0 rfl (lv_at hl 0 rfl) ?_
  refine gf_Rank_44 X hW  d_Rank_standsBefore_1 ?_
  refine lv_iload_n hx hb d_Rank_standsBefore_4 rfl (lv_at hl 1 rfl) ?_
  refine gy_la (w := scF a hp w1 w2 P) (k := 2) hx hb hK hW (by decide) (vp_in_nI (by omega) (by decide)) (by rw [nI_clamp (by omega)]; exact hSC P hP hPd) d_Rank_standsBefore_5 ?_
  refine lv_aload_n hx hb d_Rank_standsBefore_6 rfl (lv_at hl 0 rfl) ?_
  refine gf_Rank_44 X hW  d_Rank_standsBefore_7 ?_
  refine lv_iload_n hx hb d_Rank_standsBefore_10 rfl (lv_at hl 2 rfl) ?_
  refine gy_la (w := scF a hp w1 w2 Q1) (k := 2) hx hb hK hW (by decide) (vp_in_nI (by omega) (by decide)) (by rw [nI_clamp (by omega)]; exact hSC Q1 hQ hQd) d_Rank_standsBefore_11 ?_
  refine W.lcmp hx hb d_Rank_standsBefore_12 ?_
  refine lv_if_eq (tgt := 38) hx hb d_Rank_standsBefore_13 (by decide) (fun h13 => ?_) (fun h13 => ?_)
  · -- 13 t
    refine lv_aload_n hx hb d_Rank_standsBefore_38 rfl (lv_at hl 0 rfl) ?_
    refine gf_Rank_9 X hW  d_Rank_standsBefore_39 ?_
    refine gf_Rank_56 X hW  d_Rank_standsBefore_42 ?_
    refine lv_iload_n hx hb d_Rank_standsBefore_45 rfl (lv_at hl 1 rfl) ?_
    refine gy_aP (i := P) hx hb hK hW (by omega) hnp rfl d_Rank_standsBefore_46 ?_
    refine lv_aload_n hx hb d_Rank_standsBefore_47 rfl (lv_at hl 0 rfl) ?_
    refine gf_Rank_9 X hW  d_Rank_standsBefore_48 ?_
    refine gf_Rank_56 X hW  d_Rank_standsBefore_51 ?_
    refine lv_iload_n hx hb d_Rank_standsBefore_54 rfl (lv_at hl 2 rfl) ?_
    refine gy_aP (i := Q1) hx hb hK hW (by omega) hnp rfl d_Rank_standsBefore_55 ?_
    refine gc_iV (As := [.ref (ad (gp Q1))]) (b := ad (gp P)) (rest := []) X cw_Rank_129 (C_Page_comesBefore l (a := a) (x := x) (o := o) (v := v) (P := P) (Q1 := Q1) hP hQ) hW hS (gW_recv (ci := 4) (fs := gf4 g ad (gp P)) hK hW (by unfold gp; omega) (fun σ τ => ge_4 (gk_p0 P) σ τ) (r := (R_Page, F_Page, 6)) rfl) ⟨Nat.le_trans (Nat.le_of_ble_eq_true rfl) hR.1, Nat.le_trans (Nat.le_of_ble_eq_true rfl) hR.2⟩ rfl hl.1 rfl (Nat.le_of_ble_eq_true rfl) d_Rank_standsBefore_56 ⟨Nat.zero_le _, Nat.zero_le _⟩ (fun r t H locs hp hW hS => ?_)
    obtain ⟨rfl, rfl⟩ := hp
    have hW : gW g A ad np (a, x, o) v H := hW
    refine hret (bI (sBef a P Q1)) ((a, x, o), v) _ _ _ _ ?_ hW hS d_Rank_standsBefore_59
    exact ⟨rfl, by unfold bfF; rw [if_pos (lg0.mp h13)]⟩
  · -- 13 f
    refine lv_aload_n hx hb d_Rank_standsBefore_16 rfl (lv_at hl 0 rfl) ?_
    refine gf_Rank_44 X hW  d_Rank_standsBefore_17 ?_
    refine lv_iload_n hx hb d_Rank_standsBefore_20 rfl (lv_at hl 1 rfl) ?_
    refine gy_la (w := scF a hp w1 w2 P) (k := 2) hx hb hK hW (by decide) (vp_in_nI (by omega) (by decide)) (by rw [nI_clamp (by omega)]; exact hSC P hP hPd) d_Rank_standsBefore_21 ?_
    refine lv_aload_n hx hb d_Rank_standsBefore_22 rfl (lv_at hl 0 rfl) ?_
    refine gf_Rank_44 X hW  d_Rank_standsBefore_23 ?_
    refine lv_iload_n hx hb d_Rank_standsBefore_26 rfl (lv_at hl 2 rfl) ?_
    refine gy_la (w := scF a hp w1 w2 Q1) (k := 2) hx hb hK hW (by decide) (vp_in_nI (by omega) (by decide)) (by rw [nI_clamp (by omega)]; exact hSC Q1 hQ hQd) d_Rank_standsBefore_27 ?_
    refine W.lcmp hx hb d_Rank_standsBefore_28 ?_
    refine lv_if_le (tgt := 36) hx hb d_Rank_standsBefore_29 (by decide) (fun h29 => ?_) (fun h29 => ?_)
    · -- 29 t
      refine lv_iconst (v := 0) hx hb d_Rank_standsBefore_36 (by decide) ?_
      refine hret 0 ((a, x, o), v) _ _ _ _ ?_ hW hS d_Rank_standsBefore_37
      exact ⟨rfl, by unfold bfF; rw [if_neg (fun q => h13 (lg0.mpr q)), decide_eq_false (Int64.not_lt.mpr ((lg_cmp_le _ _).mp h29))]; rfl⟩
    · -- 29 f
      refine lv_iconst (v := 1) hx hb d_Rank_standsBefore_32 (by decide) ?_
      refine lv_goto (tgt := 37) hx hb d_Rank_standsBefore_33 (by decide) ?_
      refine hret 1 ((a, x, o), v) _ _ _ _ ?_ hW hS d_Rank_standsBefore_37
      exact ⟨rfl, by unfold bfF; rw [if_neg (fun q => h13 (lg0.mpr q)), decide_eq_true (Int64.not_le.mp (fun q => h29 ((lg_cmp_le _ _).mpr q)))]; rfl⟩
theorem C_Rank_standsBefore (l : Launch) {g : gG} {A : Nat → Prop} {ad : Nat → Nat} {np : Nat} {a x : gA} {o : gL} {v : gS} {ng hp P Q1 : Nat} {w1 w2 : Int32} (hw : WFw np a) (hng : a 0 25 = nI ng) (hd : dst (a 15) ng np) (hSC : ∀ e, e < np → sIsD a (nI e) = true → o 2 e = scF a hp w1 w2 e) (hP : P < np) (hQ : Q1 < np) (hPd : sIsD a (nI P) = true) (hQd : sIsD a (nI Q1) = true) : CtI l y_Rank_standsBefore b_Rank_standsBefore 3 .boolean 1 [.ref (ad 34), .int (nI P), .int (nI Q1)] g A ad np (a, x, o) v (fun r t => t = ((a, x, o), v) ∧ r = bI (bfF a hp w1 w2 P Q1)) := mkI (by decide) rfl (Nat.le_of_ble_eq_true rfl) (fun r t h => h.2 ▸ bI_nar _) (B_Rank_standsBefore l hw hng hd hSC hP hQ hPd hQd)

set_option maxHeartbeats 400000 in
set_option maxRecDepth 20000 in
theorem B_Rank_placeOf (l : Launch) {g : gG} {A : Nat → Prop} {ad : Nat → Nat} {np : Nat} {a x : gA} {o : gL} {v : gS} {ng hp P : Nat} {w1 w2 : Int32} (hw : WFw np a) (hng : a 0 25 = nI ng) (hd : dst (a 15) ng np) (hSC : ∀ e, e < np → sIsD a (nI e) = true → o 2 e = scF a hp w1 w2 e) (hDL : DL a ng x) (hP : P < np) (hPd : sIsD a (nI P) = true) (hpos : 0 < scF a hp w1 w2 P) : BdI l b_Rank_placeOf 4 R_Rank 2 [.ref (ad 34), .int (nI P)] g A ad np (a, x, o) v (fun r t => t = ((a, x, o), v) ∧ r = nI (plF a hp w1 w2 P ng)) := by
  intro p e R s m args below meth c Q ls X hW hS hR hl hret
  have hx := X.1.1
  have hb := X.1.2.1
  have hml := X.1.2.2.1
  have hown := X.1.2.2.2.1
  have hts := X.1.2.2.2.2
  have hK := X.2.1
  have hl : lv_has ls 4 [(0, .ref (ad 34)), (1, .int (nI P))] := hl
  have hnp := hw.1
  have hng32 := dst_le hd hnp
  have hcn : cn a 25 = ng := cn_of hng (by omega)
  have hm := dcN_le a ng
  refine lv_iconst (v := 0) hx hb d_Rank_placeOf_0 (by decide) ?_
  refine lv_istore_n hx hb d_Rank_placeOf_1 rfl hl (by decide) rfl (fun ls hl => ?_)
  have hl : lv_has ls 4 [(2, .int 0), (0, .ref (ad 34)), (1, .int (nI P))] := hl
  refine lv_iconst (v := 0) hx hb d_Rank_placeOf_2 (by decide) ?_
  refine lv_istore_n hx hb d_Rank_placeOf_3 rfl hl (by decide) rfl (fun ls hl => ?_)
  have hl : lv_has ls 4 [(3, .int 0), (2, .int 0), (0, .ref (ad 34)), (1, .int (nI P))] := hl
  have lp4 : ∀ (fuel : Nat) (j : Nat) (i1 : Nat) (ls : Array Slot) (H : Heap) (locs : List Loc), (j ≤ dcN a ng) → (i1 ≤ ng) → (dcN a i1 = j) → dcN a ng - j < fuel → lv_has ls 4 [(0, .ref (ad 34)), (1, .int (nI P)), (2, .int (nI (plF a hp w1 w2 P i1))), (3, .int (nI j))] → gW g A ad np (a, x, o) v H → va_S A s.heap H locs → W p l e R s m args below meth c H locs 0 0 Q (F0 m 4 ls []) := by
    intro fuel
    induction fuel with
    | zero => intro j i1 ls H locs _ _ _ hfu; exact absurd hfu (Nat.not_lt_zero _)
    | succ fuel ih4 =>
      intro j i1 ls H locs hj hi1 hdc hfu hl hW hS
      refine lv_iload_n hx hb d_Rank_placeOf_4 rfl (lv_at hl 3 rfl) ?_
      refine lv_aload_n hx hb d_Rank_placeOf_5 rfl (lv_at hl 0 rfl) ?_
      refine gf_Rank_24 X hW  d_Rank_placeOf_6 ?_
      refine gf_Rank_67 (z := nI (dcN a ng)) X hW (by omega) rfl (gv_1_2_1 _) rfl hDL.1 d_Rank_placeOf_9 ?_
      refine lv_icmp_ge (tgt := 40) hx hb d_Rank_placeOf_12 (by decide) (fun h12 => ?_) (fun h12 => ?_)
      · -- 12 t
        have h12 : (dcN a ng) ≤ j := (nI_leI (a := (dcN a ng)) (b := j) (by omega) (by omega)).mp h12
        refine lv_iload_n hx hb d_Rank_placeOf_40 rfl (lv_at hl 2 rfl) ?_
        refine hret (nI (plF a hp w1 w2 P i1)) ((a, x, o), v) _ _ _ _ ?_ hW hS d_Rank_placeOf_41
        have hsk := plF_skip (hp := hp) (v := w1) (w := w2) (P := P) (i := i1) hd hnp (ng - i1) (by omega) (by rw [show i1 + (ng - i1) = ng by omega]; omega)
        rw [show i1 + (ng - i1) = ng by omega] at hsk
        exact ⟨rfl, by rw [hsk]⟩
      · -- 12 f
        have h12 : j < (dcN a ng) := Nat.lt_of_not_le fun q => h12 ((nI_leI (a := (dcN a ng)) (b := j) (by omega) (by omega)).mpr q)
        obtain ⟨i0, e0, hi0, he0, ee0, hs0, hdc0, hx30⟩ := DL_at hDL hd (show j < dcN a ng by omega)
        refine lv_aload_n hx hb d_Rank_placeOf_15 rfl (lv_at hl 0 rfl) ?_
        refine lv_aload_n hx hb d_Rank_placeOf_16 rfl (lv_at hl 0 rfl) ?_
        refine gf_Rank_24 X hW  d_Rank_placeOf_17 ?_
        refine lv_iload_n hx hb d_Rank_placeOf_20 rfl (lv_at hl 3 rfl) ?_
        refine gc_iV (As := [.int (nI j)]) (b := ad 35) (rest := [.ref (ad 34)]) X cw_Rank_71 (C_Row_at l (u := (a, x, o)) (v := v) (x := nI j) (n := dcN a ng) (f := x 3) (gRow_35 np) hDL.1 (by omega) (fun i _ => rfl)) hW hS (gW_recv (ci := 3) (fs := gf3 ad 35) hK hW (by omega) (fun σ τ => ge_3 rfl σ τ) (r := (R_Row, F_Row, 2)) rfl) ⟨Nat.le_trans (Nat.le_of_ble_eq_true rfl) hR.1, Nat.le_trans (Nat.le_of_ble_eq_true rfl) hR.2⟩ rfl hl.1 rfl (Nat.le_of_ble_eq_true rfl) d_Rank_placeOf_21 ⟨Nat.zero_le _, Nat.zero_le _⟩ (fun r t H locs hp hW hS => ?_)
        obtain ⟨rfl, hr9⟩ := hp
        rw [at_in (by omega) (by omega), hx30] at hr9
        subst hr9
        have hW : gW g A ad np (a, x, o) v H := hW
        refine lv_iload_n hx hb d_Rank_placeOf_24 rfl (lv_at hl 1 rfl) ?_
        refine gc_iV (As := [.int (nI e0), .int (nI P)]) (b := ad 34) (rest := []) X cw_Rank_125 (C_Rank_standsBefore l (a := a) (x := x) (o := o) (v := v) (hp := hp) (P := e0) (Q1 := P) (w1 := w1) (w2 := w2) hw hng hd hSC he0 hP hs0 hPd) hW hS (gW_recv (ci := 6) (fs := fun _ => gf6 ad) hK hW (by omega) (fun σ τ => ge_6 rfl σ τ) (r := (R_Rank, F_Rank, 8)) rfl) ⟨Nat.le_trans (Nat.le_of_ble_eq_true rfl) hR.1, Nat.le_trans (Nat.le_of_ble_eq_true rfl) hR.2⟩ rfl hl.1 rfl (Nat.le_of_ble_eq_true rfl) d_Rank_placeOf_25 ⟨Nat.zero_le _, Nat.zero_le _⟩ (fun r t H locs hp hW hS => ?_)
        obtain ⟨rfl, rfl⟩ := hp
        have hW : gW g A ad np (a, x, o) v H := hW
        refine lv_if_eq (tgt := 34) hx hb d_Rank_placeOf_28 (by decide) (fun h28 => ?_) (fun h28 => ?_)
        · -- 28 t
          have h28 : (bfF a hp w1 w2 e0 P) = false := bI_0 h28
          refine lv_iinc (v := nI (j + 1)) (k := 3) hx hb d_Rank_placeOf_34 hl rfl (nI_inc j) (by decide) rfl (fun ls hl => ?_)
          have hl : lv_has ls 4 [(3, .int (nI (j + 1))), (0, .ref (ad 34)), (1, .int (nI P)), (2, .int (nI (plF a hp w1 w2 P i1)))] := hl
          refine lv_goto (tgt := 4) hx hb d_Rank_placeOf_37 (by decide) ?_
          have hle : i1 ≤ i0 := Nat.le_of_not_lt (fun q => by have := dcN_lt (show sIsD a (a 15 i0) = true by rw [ee0]; exact hs0) q; omega)
          have hsk := plF_skip (hp := hp) (v := w1) (w := w2) (P := P) (i := i1) hd hnp (i0 - i1) (by omega) (by rw [show i1 + (i0 - i1) = i0 by omega]; omega)
          rw [show i1 + (i0 - i1) = i0 by omega] at hsk
          have e6 : plF a hp w1 w2 P (i0 + 1) = plF a hp w1 w2 P i1 := by
            rw [← hsk]
            exact if_neg (fun q => by have q2 := q.2; rw [ee0, nI_clamp (by omega), h28] at q2; cases q2)
          exact ih4 (j + 1) (i0 + 1) _ _ _ (by omega) (by omega) (by rw [dcN_y (by rw [ee0]; exact hs0), hdc0]) (by omega) (by rw [e6]; exact (lv_sub hl [1, 2, 3, 0] rfl)) hW hS
        · -- 28 f
          have h28 : (bfF a hp w1 w2 e0 P) = true := bI_n0 h28
          refine lv_iinc (v := nI (plF a hp w1 w2 P i1 + 1)) (k := 2) hx hb d_Rank_placeOf_31 hl rfl (nI_inc (plF a hp w1 w2 P i1)) (by decide) rfl (fun ls hl => ?_)
          have hl : lv_has ls 4 [(2, .int (nI (plF a hp w1 w2 P i1 + 1))), (0, .ref (ad 34)), (1, .int (nI P)), (3, .int (nI j))] := hl
          refine lv_iinc (v := nI (j + 1)) (k := 3) hx hb d_Rank_placeOf_34 hl rfl (nI_inc j) (by decide) rfl (fun ls hl => ?_)
          have hl : lv_has ls 4 [(3, .int (nI (j + 1))), (2, .int (nI (plF a hp w1 w2 P i1 + 1))), (0, .ref (ad 34)), (1, .int (nI P))] := hl
          refine lv_goto (tgt := 4) hx hb d_Rank_placeOf_37 (by decide) ?_
          have hle : i1 ≤ i0 := Nat.le_of_not_lt (fun q => by have := dcN_lt (show sIsD a (a 15 i0) = true by rw [ee0]; exact hs0) q; omega)
          have hsk := plF_skip (hp := hp) (v := w1) (w := w2) (P := P) (i := i1) hd hnp (i0 - i1) (by omega) (by rw [show i1 + (i0 - i1) = i0 by omega]; omega)
          rw [show i1 + (i0 - i1) = i0 by omega] at hsk
          have e6 : plF a hp w1 w2 P (i0 + 1) = plF a hp w1 w2 P i1 + 1 := by
            rw [← hsk]
            refine if_pos ⟨?_, by rw [ee0, nI_clamp (by omega)]; exact h28⟩
            rw [ee0, nI_clamp (by omega)]
            unfold bfF at h28
            by_cases c : scF a hp w1 w2 e0 = scF a hp w1 w2 P
            · rw [c]; exact hpos
            · rw [if_neg c, decide_eq_true_eq] at h28
              exact Int64.lt_trans hpos h28
          exact ih4 (j + 1) (i0 + 1) _ _ _ (by omega) (by omega) (by rw [dcN_y (by rw [ee0]; exact hs0), hdc0]) (by omega) (by rw [e6]; exact (lv_sub hl [2, 3, 1, 0] rfl)) hW hS
  exact lp4 _ 0 0 _ _ _ (Nat.zero_le _) (Nat.zero_le _) rfl (Nat.lt_succ_self _) (lv_sub hl [2, 3, 1, 0] rfl) hW hS
theorem C_Rank_placeOf (l : Launch) {g : gG} {A : Nat → Prop} {ad : Nat → Nat} {np : Nat} {a x : gA} {o : gL} {v : gS} {ng hp P : Nat} {w1 w2 : Int32} (hw : WFw np a) (hng : a 0 25 = nI ng) (hd : dst (a 15) ng np) (hSC : ∀ e, e < np → sIsD a (nI e) = true → o 2 e = scF a hp w1 w2 e) (hDL : DL a ng x) (hP : P < np) (hPd : sIsD a (nI P) = true) (hpos : 0 < scF a hp w1 w2 P) : CtI l y_Rank_placeOf b_Rank_placeOf 4 .int 2 [.ref (ad 34), .int (nI P)] g A ad np (a, x, o) v (fun r t => t = ((a, x, o), v) ∧ r = nI (plF a hp w1 w2 P ng)) := mkI (by decide) rfl (Nat.le_of_ble_eq_true rfl) (fun _ _ _ => rfl) (B_Rank_placeOf l hw hng hd hSC hDL hP hPd hpos)

set_option maxHeartbeats 400000 in
set_option maxRecDepth 20000 in
theorem B_Rank_documentAtPlace (l : Launch) {g : gG} {A : Nat → Prop} {ad : Nat → Nat} {np : Nat} {a x : gA} {o : gL} {v : gS} {ng hp : Nat} {w1 w2 w3 : Int32} (hw : WFw np a) (hng : a 0 25 = nI ng) (hd : dst (a 15) ng np) (hSC : ∀ e, e < np → sIsD a (nI e) = true → o 2 e = scF a hp w1 w2 e) (hDL : DL a ng x) : BdI l b_Rank_documentAtPlace 4 R_Rank 3 [.ref (ad 34), .int w3] g A ad np (a, x, o) v (fun r t => t = ((a, x, o), v) ∧ r = bsF a hp w1 w2 w3 ng) := by
  intro p e R s m args below meth c Q ls X hW hS hR hl hret
  have hx := X.1.1
  have hb := X.1.2.1
  have hml := X.1.2.2.1
  have hown := X.1.2.2.2.1
  have hts := X.1.2.2.2.2
  have hK := X.2.1
  have hl : lv_has ls 4 [(0, .ref (ad 34)), (1, .int w3)] := hl
  have hnp := hw.1
  have hng32 := dst_le hd hnp
  have hcn : cn a 25 = ng := cn_of hng (by omega)
  have hm := dcN_le a ng
  refine lv_iconst (v := 0) hx hb d_Rank_documentAtPlace_0 (by decide) ?_
  refine lv_istore_n hx hb d_Rank_documentAtPlace_1 rfl hl (by decide) rfl (fun ls hl => ?_)
  have hl : lv_has ls 4 [(2, .int 0), (0, .ref (ad 34)), (1, .int w3)] := hl
  have lp2 : ∀ (fuel : Nat) (j : Nat) (i1 : Nat) (ls : Array Slot) (H : Heap) (locs : List Loc), (j ≤ dcN a ng) → (i1 ≤ ng) → (dcN a i1 = j) → (bsF a hp w1 w2 w3 i1 = -1) → dcN a ng - j < fuel → lv_has ls 4 [(0, .ref (ad 34)), (1, .int w3), (2, .int (nI j))] → gW g A ad np (a, x, o) v H → va_S A s.heap H locs → W p l e R s m args below meth c H locs 0 0 Q (F0 m 2 ls []) := by
    intro fuel
    induction fuel with
    | zero => intro j i1 ls H locs _ _ _ _ hfu; exact absurd hfu (Nat.not_lt_zero _)
    | succ fuel ih2 =>
      intro j i1 ls H locs hj hi1 hdc hbs hfu hl hW hS
      refine lv_iload_n hx hb d_Rank_documentAtPlace_2 rfl (lv_at hl 2 rfl) ?_
      refine lv_aload_n hx hb d_Rank_documentAtPlace_3 rfl (lv_at hl 0 rfl) ?_
      refine gf_Rank_24 X hW  d_Rank_documentAtPlace_4 ?_
      refine gf_Rank_67 (z := nI (dcN a ng)) X hW (by omega) rfl (gv_1_2_1 _) rfl hDL.1 d_Rank_documentAtPlace_7 ?_
      refine lv_icmp_ge (tgt := 50) hx hb d_Rank_documentAtPlace_10 (by decide) (fun h10 => ?_) (fun h10 => ?_)
      · -- 10 t
        have h10 : (dcN a ng) ≤ j := (nI_leI (a := (dcN a ng)) (b := j) (by omega) (by omega)).mp h10
        refine lv_iconst (v := (-1)) hx hb d_Rank_documentAtPlace_50 (by decide) ?_
        refine hret (-1) ((a, x, o), v) _ _ _ _ ?_ hW hS d_Rank_documentAtPlace_51
        have hb0 := bsF_skip (k := w3) (i := i1) hd hnp hbs (ng - i1) (by omega) (by rw [show i1 + (ng - i1) = ng by omega]; omega)
        rw [show i1 + (ng - i1) = ng by omega] at hb0
        exact ⟨rfl, hb0.symm⟩
      · -- 10 f
        have h10 : j < (dcN a ng) := Nat.lt_of_not_le fun q => h10 ((nI_leI (a := (dcN a ng)) (b := j) (by omega) (by omega)).mpr q)
        obtain ⟨i0, e0, hi0, he0, ee0, hs0, hdc0, hx30⟩ := DL_at hDL hd (show j < dcN a ng by omega)
        have hle : i1 ≤ i0 := Nat.le_of_not_lt (fun q => by have := dcN_lt (show sIsD a (a 15 i0) = true by rw [ee0]; exact hs0) q; omega)
        have hb0 := bsF_skip (k := w3) (i := i1) hd hnp hbs (i0 - i1) (by omega) (by rw [show i1 + (i0 - i1) = i0 by omega]; omega)
        rw [show i1 + (i0 - i1) = i0 by omega] at hb0
        refine lv_aload_n hx hb d_Rank_documentAtPlace_13 rfl (lv_at hl 0 rfl) ?_
        refine gf_Rank_24 X hW  d_Rank_documentAtPlace_14 ?_
        refine lv_iload_n hx hb d_Rank_documentAtPlace_17 rfl (lv_at hl 2 rfl) ?_
        refine gc_iV (As := [.int (nI j)]) (b := ad 35) (rest := []) X cw_Rank_71 (C_Row_at l (u := (a, x, o)) (v := v) (x := nI j) (n := dcN a ng) (f := x 3) (gRow_35 np) hDL.1 (by omega) (fun i _ => rfl)) hW hS (gW_recv (ci := 3) (fs := gf3 ad 35) hK hW (by omega) (fun σ τ => ge_3 rfl σ τ) (r := (R_Row, F_Row, 2)) rfl) ⟨Nat.le_trans (Nat.le_of_ble_eq_true rfl) hR.1, Nat.le_trans (Nat.le_of_ble_eq_true rfl) hR.2⟩ rfl hl.1 rfl (Nat.le_of_ble_eq_true rfl) d_Rank_documentAtPlace_18 ⟨Nat.zero_le _, Nat.zero_le _⟩ (fun r t H locs hp hW hS => ?_)
        obtain ⟨rfl, hr9⟩ := hp
        rw [at_in (by omega) (by omega), hx30] at hr9
        subst hr9
        have hW : gW g A ad np (a, x, o) v H := hW
        refine lv_istore_n hx hb d_Rank_documentAtPlace_21 rfl hl (by decide) rfl (fun ls hl => ?_)
        have hl : lv_has ls 4 [(3, .int (nI e0)), (0, .ref (ad 34)), (1, .int w3), (2, .int (nI j))] := hl
        refine lv_aload_n hx hb d_Rank_documentAtPlace_22 rfl (lv_at hl 1 rfl) ?_
        refine gf_Rank_44 X hW  d_Rank_documentAtPlace_23 ?_
        refine lv_iload_n hx hb d_Rank_documentAtPlace_26 rfl (lv_at hl 0 rfl) ?_
        refine gy_la (w := scF a hp w1 w2 e0) (k := 2) hx hb hK hW (by decide) (vp_in_nI (by omega) (by decide)) (by rw [nI_clamp (by omega)]; exact hSC e0 he0 hs0) d_Rank_documentAtPlace_27 ?_
        refine lv_lconst (v := 0) hx hb d_Rank_documentAtPlace_28 (by decide) ?_
        refine W.lcmp hx hb d_Rank_documentAtPlace_29 ?_
        refine lv_if_le (tgt := 44) hx hb d_Rank_documentAtPlace_30 (by decide) (fun h30 => ?_) (fun h30 => ?_)
        · -- 30 t
          have h30 : ¬ 0 < scF a hp w1 w2 e0 := Int64.not_lt.mpr ((lg_cmp_le _ _).mp h30)
          refine lv_iinc (v := nI (j + 1)) (k := 3) hx hb d_Rank_documentAtPlace_44 hl rfl (nI_inc j) (by decide) rfl (fun ls hl => ?_)
          have hl : lv_has ls 4 [(2, .int (nI (j + 1))), (3, .int (nI e0)), (0, .ref (ad 34)), (1, .int w3)] := hl
          refine lv_goto (tgt := 2) hx hb d_Rank_documentAtPlace_47 (by decide) ?_
          exact ih2 (j + 1) (i0 + 1) _ _ _ (by omega) (by omega) (by rw [dcN_y (by rw [ee0]; exact hs0), hdc0]) (bsF_no hb0 (fun q => by rw [ee0, nI_clamp (by omega), hcn] at q; first | exact h30 q.1 | exact h39 q.2)) (by omega) (lv_sub hl [2, 3, 0] rfl) hW hS
        · -- 30 f
          have h30 : 0 < scF a hp w1 w2 e0 := Int64.not_le.mp (fun q => h30 ((lg_cmp_le _ _).mpr q))
          refine lv_aload_n hx hb d_Rank_documentAtPlace_33 rfl (lv_at hl 1 rfl) ?_
          refine lv_iload_n hx hb d_Rank_documentAtPlace_34 rfl (lv_at hl 0 rfl) ?_
          refine gc_iV (As := [.int (nI e0)]) (b := ad 34) (rest := []) X cw_Rank_97 (C_Rank_placeOf l (a := a) (x := x) (o := o) (v := v) (hp := hp) (P := e0) (w1 := w1) (w2 := w2) hw hng hd hSC hDL he0 hs0 h30) hW hS (gW_recv (ci := 6) (fs := fun _ => gf6 ad) hK hW (by omega) (fun σ τ => ge_6 rfl σ τ) (r := (R_Rank, F_Rank, 8)) rfl) ⟨Nat.le_trans (Nat.le_of_ble_eq_true rfl) hR.1, Nat.le_trans (Nat.le_of_ble_eq_true rfl) hR.2⟩ rfl hl.1 rfl (Nat.le_of_ble_eq_true rfl) d_Rank_documentAtPlace_35 ⟨Nat.zero_le _, Nat.zero_le _⟩ (fun r t H locs hp hW hS => ?_)
          obtain ⟨rfl, rfl⟩ := hp
          have hW : gW g A ad np (a, x, o) v H := hW
          refine lv_iload_n hx hb d_Rank_documentAtPlace_38 rfl (lv_at hl 2 rfl) ?_
          refine lv_icmp_ne (tgt := 44) hx hb d_Rank_documentAtPlace_39 (by decide) (fun h39 => ?_) (fun h39 => ?_)
          · -- 39 t
            refine lv_iinc (v := nI (j + 1)) (k := 3) hx hb d_Rank_documentAtPlace_44 hl rfl (nI_inc j) (by decide) rfl (fun ls hl => ?_)
            have hl : lv_has ls 4 [(2, .int (nI (j + 1))), (3, .int (nI e0)), (0, .ref (ad 34)), (1, .int w3)] := hl
            refine lv_goto (tgt := 2) hx hb d_Rank_documentAtPlace_47 (by decide) ?_
            exact ih2 (j + 1) (i0 + 1) _ _ _ (by omega) (by omega) (by rw [dcN_y (by rw [ee0]; exact hs0), hdc0]) (bsF_no hb0 (fun q => by rw [ee0, nI_clamp (by omega), hcn] at q; first | exact h30 q.1 | exact h39 q.2)) (by omega) (lv_sub hl [2, 3, 0] rfl) hW hS
          · -- 39 f
            refine lv_iload_n hx hb d_Rank_documentAtPlace_42 rfl (lv_at hl 0 rfl) ?_
            refine hret (nI e0) ((a, x, o), v) _ _ _ _ ?_ hW hS d_Rank_documentAtPlace_43
            have h9 := bsF_hit hb0 (by rw [ee0, nI_clamp (by omega), hcn]; exact ⟨h30, h39⟩) (by rw [ee0]; exact nI_neg (by omega) (by decide)) (ng - (i0 + 1))
            rw [show i0 + 1 + (ng - (i0 + 1)) = ng by omega, ee0] at h9
            exact ⟨rfl, by rw [h9]⟩
  exact lp2 _ 0 0 _ _ _ (Nat.zero_le _) (Nat.zero_le _) rfl rfl (Nat.lt_succ_self _) (lv_sub hl [1, 2, 0] rfl) hW hS
theorem C_Rank_documentAtPlace (l : Launch) {g : gG} {A : Nat → Prop} {ad : Nat → Nat} {np : Nat} {a x : gA} {o : gL} {v : gS} {ng hp : Nat} {w1 w2 w3 : Int32} (hw : WFw np a) (hng : a 0 25 = nI ng) (hd : dst (a 15) ng np) (hSC : ∀ e, e < np → sIsD a (nI e) = true → o 2 e = scF a hp w1 w2 e) (hDL : DL a ng x) : CtI l y_Rank_documentAtPlace b_Rank_documentAtPlace 4 .int 3 [.ref (ad 34), .int w3] g A ad np (a, x, o) v (fun r t => t = ((a, x, o), v) ∧ r = bsF a hp w1 w2 w3 ng) := mkI (by decide) rfl (Nat.le_of_ble_eq_true rfl) (fun _ _ _ => rfl) (B_Rank_documentAtPlace l hw hng hd hSC hDL)

set_option maxHeartbeats 400000 in
set_option maxRecDepth 20000 in
theorem B_PG_document (l : Launch) {g : gG} {A : Nat → Prop} {ad : Nat → Nat} {np : Nat} {a x : gA} {o : gL} {v : gS} {w1 : Int32} (hw : WFw np a) (hg : WFg np a) : BdI l b_PG_document 2 R_PG 2 [.ref (ad 0), .int w1] g A ad np (a, x, o) v (fun r t => t = ((a, x, o), v) ∧ r = rDc a w1) := by
  intro p e R s m args below meth c Q ls X hW hS hR hl hret
  have hx := X.1.1
  have hb := X.1.2.1
  have hml := X.1.2.2.1
  have hown := X.1.2.2.2.1
  have hts := X.1.2.2.2.2
  have hK := X.2.1
  have hl : lv_has ls 2 [(0, .ref (ad 0)), (1, .int w1)] := hl
  have hnp := hw.1
  obtain ⟨hd, nq, nf, ng, mh, mq, mf, mg, hp0, e20, e21, e23, e25, e29, e30, e31, e32, e33, e15, hp4, hdq, mhd, mhq, mqq, mff, mgg, d12, d14, d15⟩ := hg
  have hng32 := dst_le d15 hnp
  refine lv_aload_n hx hb d_PG_document_0 rfl (lv_at hl 0 rfl) ?_
  refine gf_PG_34 (z := a 0 13) X hW  (gv_0_0_13 _) rfl rfl d_PG_document_1 ?_
  refine lv_if_eq (tgt := 18) hx hb d_PG_document_4 (by decide) (fun h4 => ?_) (fun h4 => ?_)
  · -- 4 t
    refine lv_iconst (v := (-1)) hx hb d_PG_document_18 (by decide) ?_
    refine hret (-1) ((a, x, o), v) _ _ _ _ ?_ hW hS d_PG_document_19
    unfold rDc
    first | exact ⟨rfl, by rw [if_pos h4]⟩ | exact ⟨rfl, by rw [if_neg h4]⟩
  · -- 4 f
    refine lv_aload_n hx hb d_PG_document_7 rfl (lv_at hl 0 rfl) ?_
    refine gf_PG_30 X hW  d_PG_document_8 ?_
    refine lv_iload_n hx hb d_PG_document_11 rfl (lv_at hl 1 rfl) ?_
    refine gc_iV (As := [.int w1]) (b := ad 34) (rest := []) X cw_PG_141 (C_Rank_documentOf l (a := a) (x := x) (o := o) (v := v) (w1 := w1) hw e25 d15) hW hS (gW_recv (ci := 6) (fs := fun _ => gf6 ad) hK hW (by omega) (fun σ τ => ge_6 rfl σ τ) (r := (R_Rank, F_Rank, 8)) rfl) ⟨Nat.le_trans (Nat.le_of_ble_eq_true rfl) hR.1, Nat.le_trans (Nat.le_of_ble_eq_true rfl) hR.2⟩ rfl hl.1 rfl (Nat.le_of_ble_eq_true rfl) d_PG_document_12 ⟨Nat.zero_le _, Nat.zero_le _⟩ (fun r t H locs hp hW hS => ?_)
    obtain ⟨rfl, rfl⟩ := hp
    have hW : gW g A ad np (a, x, o) v H := hW
    refine lv_goto (tgt := 19) hx hb d_PG_document_15 (by decide) ?_
    refine hret (rDo a w1) ((a, x, o), v) _ _ _ _ ?_ hW hS d_PG_document_19
    unfold rDc
    first | exact ⟨rfl, by rw [if_pos h4]⟩ | exact ⟨rfl, by rw [if_neg h4]⟩
theorem C_PG_document (l : Launch) {g : gG} {A : Nat → Prop} {ad : Nat → Nat} {np : Nat} {a x : gA} {o : gL} {v : gS} {w1 : Int32} (hw : WFw np a) (hg : WFg np a) : CtI l y_PG_document b_PG_document 2 .int 2 [.ref (ad 0), .int w1] g A ad np (a, x, o) v (fun r t => t = ((a, x, o), v) ∧ r = rDc a w1) := mkI (by decide) rfl (Nat.le_of_ble_eq_true rfl) (fun _ _ _ => rfl) (B_PG_document l hw hg)

set_option maxHeartbeats 400000 in
set_option maxRecDepth 20000 in
theorem B_PG_rank (l : Launch) {g : gG} {A : Nat → Prop} {ad : Nat → Nat} {np : Nat} {a x : gA} {o : gL} {v : gS} {w1 w2 : Int32} (hw : WFw np a) (hwx : WX np a x) (hg : WFg np a) : BdL l b_PG_rank 3 R_PG 6 [.ref (ad 0), .int w1, .int w2] g A ad np (a, x, o) v (fun r t => r = rRk a w1 w2 ∧ ∃ x' o', t = ((a, x', o'), v) ∧ WX np a x') := by
  intro p e R s m args below meth c Q ls X hW hS hR hl hret
  have hx := X.1.1
  have hb := X.1.2.1
  have hml := X.1.2.2.1
  have hown := X.1.2.2.2.1
  have hts := X.1.2.2.2.2
  have hK := X.2.1
  have hl : lv_has ls 3 [(0, .ref (ad 0)), (1, .int w1), (2, .int w2)] := hl
  have hnp := hw.1
  obtain ⟨hd, nq, nf, ng, mh, mq, mf, mg, hp0, e20, e21, e23, e25, e29, e30, e31, e32, e33, e15, hp4, hdq, mhd, mhq, mqq, mff, mgg, d12, d14, d15⟩ := hg
  have hng32 := dst_le d15 hnp
  refine lv_aload_n hx hb d_PG_rank_0 rfl (lv_at hl 0 rfl) ?_
  refine gf_PG_34 (z := a 0 13) X hW  (gv_0_0_13 _) rfl rfl d_PG_rank_1 ?_
  refine lv_if_eq (tgt := 28) hx hb d_PG_rank_4 (by decide) (fun h4 => ?_) (fun h4 => ?_)
  · -- 4 t
    refine lv_lconst (v := 0) hx hb d_PG_rank_28 (by decide) ?_
    refine hret 0 ((a, x, o), v) _ _ _ _ ?_ hW hS d_PG_rank_29
    exact ⟨by unfold rRk; rw [if_pos (by first | exact Or.inl h4 | exact Or.inr (Or.inr h14) | exact Or.inr (Or.inl h25))], x, o, rfl, hwx⟩
  · -- 4 f
    refine lv_iload_n hx hb d_PG_rank_7 rfl (lv_at hl 2 rfl) ?_
    refine lv_iconst (v := 0) hx hb d_PG_rank_8 (by decide) ?_
    refine lv_bipush (v := 12) hx hb d_PG_rank_9 (by decide) ?_
    refine gc_iS (As := [.int w2, .int 0, .int 12]) (rest := []) X cw_PG_46 (C_PG_isWithin l (w0 := w2) (w1 := 0) (w2 := 12)) hW hS ⟨Nat.le_trans (Nat.le_of_ble_eq_true rfl) hR.1, Nat.le_trans (Nat.le_of_ble_eq_true rfl) hR.2⟩ rfl hl.1 rfl (Nat.le_of_ble_eq_true rfl) d_PG_rank_11 ⟨Nat.zero_le _, Nat.zero_le _⟩ (fun r t H locs hp hW hS => ?_)
    obtain ⟨rfl, rfl⟩ := hp
    have hW : gW g A ad np (a, x, o) v H := hW
    refine lv_if_eq (tgt := 28) hx hb d_PG_rank_14 (by decide) (fun h14 => ?_) (fun h14 => ?_)
    · -- 14 t
      have h14 : (sIn w2 0 12) = false := bI_0 h14
      refine lv_lconst (v := 0) hx hb d_PG_rank_28 (by decide) ?_
      refine hret 0 ((a, x, o), v) _ _ _ _ ?_ hW hS d_PG_rank_29
      exact ⟨by unfold rRk; rw [if_pos (by first | exact Or.inl h4 | exact Or.inr (Or.inr h14) | exact Or.inr (Or.inl h25))], x, o, rfl, hwx⟩
    · -- 14 f
      have h14 : (sIn w2 0 12) = true := bI_n0 h14
      refine lv_aload_n hx hb d_PG_rank_17 rfl (lv_at hl 0 rfl) ?_
      refine gf_PG_30 X hW  d_PG_rank_18 ?_
      refine lv_iload_n hx hb d_PG_rank_21 rfl (lv_at hl 1 rfl) ?_
      refine gc_iV (As := [.int w1]) (b := ad 34) (rest := []) X cw_PG_144 (C_Rank_isDocument l (a := a) (x := x) (o := o) (v := v) (w1 := w1) hw e25 d15) hW hS (gW_recv (ci := 6) (fs := fun _ => gf6 ad) hK hW (by omega) (fun σ τ => ge_6 rfl σ τ) (r := (R_Rank, F_Rank, 8)) rfl) ⟨Nat.le_trans (Nat.le_of_ble_eq_true rfl) hR.1, Nat.le_trans (Nat.le_of_ble_eq_true rfl) hR.2⟩ rfl hl.1 rfl (Nat.le_of_ble_eq_true rfl) d_PG_rank_22 ⟨Nat.zero_le _, Nat.zero_le _⟩ (fun r t H locs hp hW hS => ?_)
      obtain ⟨rfl, rfl⟩ := hp
      have hW : gW g A ad np (a, x, o) v H := hW
      refine lv_if_ne (tgt := 30) hx hb d_PG_rank_25 (by decide) (fun h25 => ?_) (fun h25 => ?_)
      · -- 25 t
        have h25 : (sIsD a w1) = true := bI_n0 h25
        have h25a := h25
        have h14a := h14
        obtain ⟨P, hP, rfl⟩ := sIsD_of e25 d15 hnp h25
        obtain ⟨rr, -, hrr, rfl⟩ := sIn_of (lo := 0) (hi := 12) (by decide) (by decide) h14
        refine lv_aload_n hx hb d_PG_rank_30 rfl (lv_at hl 0 rfl) ?_
        refine gf_PG_30 X hW  d_PG_rank_31 ?_
        refine lv_iload_n hx hb d_PG_rank_34 rfl (lv_at hl 2 rfl) ?_
        refine gc_vV (As := [.int (nI rr)]) (b := ad 34) (rest := []) X cw_PG_147 (C_Rank_computeRanks l (a := a) (x := x) (o := o) (v := v) (rr := rr) hw e25 d15 hwx e15 hp4 hrr) hW hS (gW_recv (ci := 6) (fs := fun _ => gf6 ad) hK hW (by omega) (fun σ τ => ge_6 rfl σ τ) (r := (R_Rank, F_Rank, 8)) rfl) ⟨Nat.le_trans (Nat.le_of_ble_eq_true rfl) hR.1, Nat.le_trans (Nat.le_of_ble_eq_true rfl) hR.2⟩ rfl hl.1 rfl (Nat.le_of_ble_eq_true rfl) d_PG_rank_35 ⟨Nat.zero_le _, Nat.zero_le _⟩ (fun t H locs hp hW hS => ?_)
        obtain ⟨x', o', rfl, hx1, hDL, hrk⟩ := hp
        have hW : gW g A ad np (a, x', o') v H := hW
        refine lv_aload_n hx hb d_PG_rank_38 rfl (lv_at hl 0 rfl) ?_
        refine gf_PG_30 X hW  d_PG_rank_39 ?_
        refine gf_PG_151 X hW  d_PG_rank_42 ?_
        refine lv_iload_n hx hb d_PG_rank_45 rfl (lv_at hl 1 rfl) ?_
        refine gy_la (w := rkF a hp0 rr P) (k := 0) hx hb hK hW (by decide) (vp_in_nI (by omega) (by decide)) (by rw [nI_clamp (by omega)]; exact hrk P hP h25a) d_PG_rank_46 ?_
        refine hret (rkF a hp0 rr P) ((a, x', o'), v) _ _ _ _ ?_ hW hS d_PG_rank_47
        exact ⟨by unfold rRk; rw [if_neg (fun q => q.elim h4 (fun q => q.elim (fun z => by rw [h25a] at z; cases z) (fun z => by rw [h14a] at z; cases z))), cn_of e15 (by omega), nI_clamp (by omega), nI_clamp (by omega)], x', o', rfl, WX_x hx1 ⟨_, Nat.le_trans (dcN_le a ng) (by omega), hDL.1⟩ hwx⟩
      · -- 25 f
        have h25 : (sIsD a w1) = false := bI_0 h25
        refine lv_lconst (v := 0) hx hb d_PG_rank_28 (by decide) ?_
        refine hret 0 ((a, x, o), v) _ _ _ _ ?_ hW hS d_PG_rank_29
        exact ⟨by unfold rRk; rw [if_pos (by first | exact Or.inl h4 | exact Or.inr (Or.inr h14) | exact Or.inr (Or.inl h25))], x, o, rfl, hwx⟩
theorem C_PG_rank (l : Launch) {g : gG} {A : Nat → Prop} {ad : Nat → Nat} {np : Nat} {a x : gA} {o : gL} {v : gS} {w1 w2 : Int32} (hw : WFw np a) (hwx : WX np a x) (hg : WFg np a) : CtL l y_PG_rank b_PG_rank 3 6 [.ref (ad 0), .int w1, .int w2] g A ad np (a, x, o) v (fun r t => r = rRk a w1 w2 ∧ ∃ x' o', t = ((a, x', o'), v) ∧ WX np a x') := mkL (by decide) rfl (Nat.le_of_ble_eq_true rfl) (B_PG_rank l hw hwx hg)

set_option maxHeartbeats 400000 in
set_option maxRecDepth 20000 in
theorem B_PG_best (l : Launch) {g : gG} {A : Nat → Prop} {ad : Nat → Nat} {np : Nat} {a x : gA} {o : gL} {v : gS} {w1 w2 w3 : Int32} (hw : WFw np a) (hwx : WX np a x) (hg : WFg np a) : BdI l b_PG_best 4 R_PG 6 [.ref (ad 0), .int w1, .int w2, .int w3] g A ad np (a, x, o) v (fun r t => r = rBs a w1 w2 w3 ∧ ∃ x' o', t = ((a, x', o'), v) ∧ WX np a x') := by
  intro p e R s m args below meth c Q ls X hW hS hR hl hret
  have hx := X.1.1
  have hb := X.1.2.1
  have hml := X.1.2.2.1
  have hown := X.1.2.2.2.1
  have hts := X.1.2.2.2.2
  have hK := X.2.1
  have hl : lv_has ls 4 [(0, .ref (ad 0)), (1, .int w1), (2, .int w2), (3, .int w3)] := hl
  have hnp := hw.1
  obtain ⟨hd, nq, nf, ng, mh, mq, mf, mg, hp0, e20, e21, e23, e25, e29, e30, e31, e32, e33, e15, hp4, hdq, mhd, mhq, mqq, mff, mgg, d12, d14, d15⟩ := hg
  have hng32 := dst_le d15 hnp
  refine lv_aload_n hx hb d_PG_best_0 rfl (lv_at hl 0 rfl) ?_
  refine gf_PG_34 (z := a 0 13) X hW  (gv_0_0_13 _) rfl rfl d_PG_best_1 ?_
  refine lv_if_ne (tgt := 9) hx hb d_PG_best_4 (by decide) (fun h4 => ?_) (fun h4 => ?_)
  · -- 4 t
    refine lv_aload_n hx hb d_PG_best_9 rfl (lv_at hl 0 rfl) ?_
    refine gf_PG_30 X hW  d_PG_best_10 ?_
    refine lv_bipush (v := 8) hx hb d_PG_best_13 (by decide) ?_
    refine gc_vV (As := [.int 8]) (b := ad 34) (rest := []) X cw_PG_147 (C_Rank_computeRanks l (a := a) (x := x) (o := o) (v := v) (rr := 8) hw e25 d15 hwx e15 hp4 (by decide)) hW hS (gW_recv (ci := 6) (fs := fun _ => gf6 ad) hK hW (by omega) (fun σ τ => ge_6 rfl σ τ) (r := (R_Rank, F_Rank, 8)) rfl) ⟨Nat.le_trans (Nat.le_of_ble_eq_true rfl) hR.1, Nat.le_trans (Nat.le_of_ble_eq_true rfl) hR.2⟩ rfl hl.1 rfl (Nat.le_of_ble_eq_true rfl) d_PG_best_15 ⟨Nat.zero_le _, Nat.zero_le _⟩ (fun t H locs hp hW hS => ?_)
    obtain ⟨x', o', rfl, hx1, hDL, hrk⟩ := hp
    have hW : gW g A ad np (a, x', o') v H := hW
    refine lv_aload_n hx hb d_PG_best_18 rfl (lv_at hl 0 rfl) ?_
    refine gf_PG_30 X hW  d_PG_best_19 ?_
    refine lv_iload_n hx hb d_PG_best_22 rfl (lv_at hl 1 rfl) ?_
    refine lv_iload_n hx hb d_PG_best_23 rfl (lv_at hl 2 rfl) ?_
    refine gc_vV (As := [.int w1, .int w2]) (b := ad 34) (rest := []) X cw_PG_155 (C_Rank_computeScores l (a := a) (x := x') (o := o') (v := v) (hp := hp0) (w1 := w1) (w2 := w2) hw e25 d15 hDL hrk) hW hS (gW_recv (ci := 6) (fs := fun _ => gf6 ad) hK hW (by omega) (fun σ τ => ge_6 rfl σ τ) (r := (R_Rank, F_Rank, 8)) rfl) ⟨Nat.le_trans (Nat.le_of_ble_eq_true rfl) hR.1, Nat.le_trans (Nat.le_of_ble_eq_true rfl) hR.2⟩ rfl hl.1 rfl (Nat.le_of_ble_eq_true rfl) d_PG_best_24 ⟨Nat.zero_le _, Nat.zero_le _⟩ (fun t H locs hp hW hS => ?_)
    obtain ⟨o2, rfl, hsc⟩ := hp
    have hW : gW g A ad np (a, x', o2) v H := hW
    refine lv_aload_n hx hb d_PG_best_27 rfl (lv_at hl 0 rfl) ?_
    refine gf_PG_30 X hW  d_PG_best_28 ?_
    refine lv_iload_n hx hb d_PG_best_31 rfl (lv_at hl 3 rfl) ?_
    refine gc_iV (As := [.int w3]) (b := ad 34) (rest := []) X cw_PG_159 (C_Rank_documentAtPlace l (a := a) (x := x') (o := o2) (v := v) (hp := hp0) (w1 := w1) (w2 := w2) (w3 := w3) hw e25 d15 hsc hDL) hW hS (gW_recv (ci := 6) (fs := fun _ => gf6 ad) hK hW (by omega) (fun σ τ => ge_6 rfl σ τ) (r := (R_Rank, F_Rank, 8)) rfl) ⟨Nat.le_trans (Nat.le_of_ble_eq_true rfl) hR.1, Nat.le_trans (Nat.le_of_ble_eq_true rfl) hR.2⟩ rfl hl.1 rfl (Nat.le_of_ble_eq_true rfl) d_PG_best_32 ⟨Nat.zero_le _, Nat.zero_le _⟩ (fun r t H locs hp hW hS => ?_)
    obtain ⟨rfl, rfl⟩ := hp
    have hW : gW g A ad np (a, x', o2) v H := hW
    refine hret (bsF a hp0 w1 w2 w3 ng) ((a, x', o2), v) _ _ _ _ ?_ hW hS d_PG_best_35
    exact ⟨by unfold rBs; rw [if_neg h4, cn_of e15 (by omega), cn_of e25 (by omega)], x', o2, rfl, WX_x hx1 ⟨_, Nat.le_trans (dcN_le a ng) (by omega), hDL.1⟩ hwx⟩
  · -- 4 f
    refine lv_iconst (v := (-1)) hx hb d_PG_best_7 (by decide) ?_
    refine hret (-1) ((a, x, o), v) _ _ _ _ ?_ hW hS d_PG_best_8
    exact ⟨by unfold rBs; rw [if_pos h4], x, o, rfl, hwx⟩
theorem C_PG_best (l : Launch) {g : gG} {A : Nat → Prop} {ad : Nat → Nat} {np : Nat} {a x : gA} {o : gL} {v : gS} {w1 w2 w3 : Int32} (hw : WFw np a) (hwx : WX np a x) (hg : WFg np a) : CtI l y_PG_best b_PG_best 4 .int 6 [.ref (ad 0), .int w1, .int w2, .int w3] g A ad np (a, x, o) v (fun r t => r = rBs a w1 w2 w3 ∧ ∃ x' o', t = ((a, x', o'), v) ∧ WX np a x') := mkI (by decide) rfl (Nat.le_of_ble_eq_true rfl) (fun _ _ _ => rfl) (B_PG_best l hw hwx hg)

