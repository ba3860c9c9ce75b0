/-! specs_mbest -/
theorem lg0 {x y : Int64} : lg_cmp x y = 0 ↔ x = y := by
  unfold lg_cmp
  by_cases h : x > y
  · rw [if_pos h]
    exact ⟨fun q => absurd q (by decide), fun q => absurd h (by rw [q]; exact fun z => Int64.lt_irrefl z)⟩
  · rw [if_neg h]
    by_cases e : x = y
    · rw [if_pos e]
      exact ⟨fun _ => e, fun _ => rfl⟩
    · rw [if_neg e]
      exact ⟨fun q => absurd q (by decide), fun q => absurd q e⟩
set_option maxHeartbeats 400000 in
set_option maxRecDepth 20000 in
theorem B_Mod_rank (l : Launch) {g : gG} {A : Nat → Prop} {ad : Nat → Nat} {np : Nat} {u : gS} {a x : gA} {o : gL} {nm ng hp : Nat} {w1 w2 : Int32} (hw : WFw nm a) (hng : a 0 25 = nI ng) (hd : dst (a 15) ng nm) (hhp : a 0 15 = nI hp) (hp4 : hp ≤ 4) : BdL l b_Mod_rank 3 R_Mod 5 [.ref (ad 74), .int w1, .int w2] g A ad np u (a, x, o) (fun r t => r = rRk a w1 w2 ∧ ∃ x' o', t = (u, (a, x', o'))) := by
  intro p e R s m args below meth c Q ls X hW hS hR hl hret
  have hx := X.1.1
  have hb := X.1.2.1
  have hml := X.1.2.2.1
  have hown := X.1.2.2.2.1
  have hts := X.1.2.2.2.2
  have hK := X.2.1
  have hl : lv_has ls 3 [(0, .ref (ad 74)), (1, .int w1), (2, .int w2)] := hl
  have hnp := hw.1
  refine lv_aload_n hx hb d_Mod_rank_0 rfl (lv_at hl 0 rfl) ?_
  refine gf_Mod_73 (z := a 0 13) X hW  (gv_2_0_13 _) rfl rfl d_Mod_rank_1 ?_
  refine lv_if_eq (tgt := 25) hx hb d_Mod_rank_4 (by decide) (fun h4 => ?_) (fun h4 => ?_)
  · -- 4 t
    refine lv_lconst (v := 0) hx hb d_Mod_rank_25 (by decide) ?_
    refine hret 0 (u, (a, x, o)) _ _ _ _ ?_ hW hS d_Mod_rank_26
    exact ⟨by unfold rRk; rw [if_pos (by first | exact Or.inl h4 | exact Or.inr (Or.inl h12) | exact Or.inr (Or.inr (sIn_f1 h16)) | exact Or.inr (Or.inr (sIn_f2 (Int32.not_le.mp h22))))], _, _, rfl⟩
  · -- 4 f
    refine lv_aload_n hx hb d_Mod_rank_7 rfl (lv_at hl 0 rfl) ?_
    refine lv_iload_n hx hb d_Mod_rank_8 rfl (lv_at hl 1 rfl) ?_
    refine gc_iV (As := [.int w1]) (b := ad 74) (rest := []) X cw_Mod_181 (C_Mod_isDocument l (u := u) (a := a) (x := x) (o := o) (nm := nm) (w1 := w1) hw hng hd h4) hW hS (gW_recv (ci := 7) (fs := gf7 ad) hK hW (by omega) (fun σ τ => ge_7 rfl σ τ) (r := (R_Mod, F_Mod, 37)) rfl) ⟨Nat.le_trans (Nat.le_of_ble_eq_true rfl) hR.1, Nat.le_trans (Nat.le_of_ble_eq_true rfl) hR.2⟩ rfl hl.1 rfl (Nat.le_of_ble_eq_true rfl) d_Mod_rank_9 ⟨Nat.zero_le _, Nat.zero_le _⟩ (fun r t H locs hp hW hS => ?_)
    obtain ⟨rfl, rfl⟩ := hp
    have hW : gW g A ad np u (a, x, o) H := hW
    refine lv_if_eq (tgt := 25) hx hb d_Mod_rank_12 (by decide) (fun h12 => ?_) (fun h12 => ?_)
    · -- 12 t
      have h12 : (sIsD a w1) = false := bI_0 h12
      refine lv_lconst (v := 0) hx hb d_Mod_rank_25 (by decide) ?_
      refine hret 0 (u, (a, x, o)) _ _ _ _ ?_ hW hS d_Mod_rank_26
      exact ⟨by unfold rRk; rw [if_pos (by first | exact Or.inl h4 | exact Or.inr (Or.inl h12) | exact Or.inr (Or.inr (sIn_f1 h16)) | exact Or.inr (Or.inr (sIn_f2 (Int32.not_le.mp h22))))], _, _, rfl⟩
    · -- 12 f
      have h12 : (sIsD a w1) = true := bI_n0 h12
      refine lv_iload_n hx hb d_Mod_rank_15 rfl (lv_at hl 2 rfl) ?_
      refine lv_if_lt (tgt := 25) hx hb d_Mod_rank_16 (by decide) (fun h16 => ?_) (fun h16 => ?_)
      · -- 16 t
        refine lv_lconst (v := 0) hx hb d_Mod_rank_25 (by decide) ?_
        refine hret 0 (u, (a, x, o)) _ _ _ _ ?_ hW hS d_Mod_rank_26
        exact ⟨by unfold rRk; rw [if_pos (by first | exact Or.inl h4 | exact Or.inr (Or.inl h12) | exact Or.inr (Or.inr (sIn_f1 h16)) | exact Or.inr (Or.inr (sIn_f2 (Int32.not_le.mp h22))))], _, _, rfl⟩
      · -- 16 f
        refine lv_iload_n hx hb d_Mod_rank_19 rfl (lv_at hl 2 rfl) ?_
        refine lv_bipush (v := 12) hx hb d_Mod_rank_20 (by decide) ?_
        refine lv_icmp_le (tgt := 27) hx hb d_Mod_rank_22 (by decide) (fun h22 => ?_) (fun h22 => ?_)
        · -- 22 t
          have h12a := h12
          have hsn : sIn w2 0 12 = true := sIn_t h16 (Int32.not_lt.mpr h22)
          obtain ⟨P, hP, rfl⟩ := sIsD_of hng hd hnp h12
          obtain ⟨rr, -, hrr, rfl⟩ := sIn_of (lo := 0) (hi := 12) (by decide) (by decide) hsn
          refine lv_aload_n hx hb d_Mod_rank_27 rfl (lv_at hl 0 rfl) ?_
          refine lv_iload_n hx hb d_Mod_rank_28 rfl (lv_at hl 2 rfl) ?_
          refine gc_vV (As := [.int (nI rr)]) (b := ad 74) (rest := []) X cw_Mod_184 (C_Mod_rankAll l (u := u) (a := a) (x := x) (o := o) (nm := nm) (rr := rr) hw hng hd h4 hhp hp4 hrr) hW hS (gW_recv (ci := 7) (fs := gf7 ad) hK hW (by omega) (fun σ τ => ge_7 rfl σ τ) (r := (R_Mod, F_Mod, 37)) rfl) ⟨Nat.le_trans (Nat.le_of_ble_eq_true rfl) hR.1, Nat.le_trans (Nat.le_of_ble_eq_true rfl) hR.2⟩ rfl hl.1 rfl (Nat.le_of_ble_eq_true rfl) d_Mod_rank_29 ⟨Nat.zero_le _, Nat.zero_le _⟩ (fun t H locs hp hW hS => ?_)
          obtain ⟨x', o', rfl, hrk⟩ := hp
          have hW : gW g A ad np u (a, x', o') H := hW
          refine lv_aload_n hx hb d_Mod_rank_32 rfl (lv_at hl 0 rfl) ?_
          refine gf_Mod_62 X hW  d_Mod_rank_33 ?_
          refine lv_iload_n hx hb d_Mod_rank_36 rfl (lv_at hl 1 rfl) ?_
          refine gy_laM (w := rkF a hp rr P) (k := 0) hx hb hK hW (by decide) (vp_in_nI (by omega) (by decide)) (by rw [nI_clamp (by omega)]; exact hrk P hP) d_Mod_rank_37 ?_
          refine hret (rkF a hp rr P) (u, (a, x', o')) _ _ _ _ ?_ hW hS d_Mod_rank_38
          exact ⟨by unfold rRk; rw [if_neg (fun q => q.elim h4 (fun q => q.elim (fun z => by rw [h12a] at z; cases z) (fun z => by rw [hsn] at z; cases z))), cn_of hhp (by omega), nI_clamp (by omega), nI_clamp (by omega)], _, _, rfl⟩
        · -- 22 f
          refine lv_lconst (v := 0) hx hb d_Mod_rank_25 (by decide) ?_
          refine hret 0 (u, (a, x, o)) _ _ _ _ ?_ hW hS d_Mod_rank_26
          exact ⟨by unfold rRk; rw [if_pos (by first | exact Or.inl h4 | exact Or.inr (Or.inl h12) | exact Or.inr (Or.inr (sIn_f1 h16)) | exact Or.inr (Or.inr (sIn_f2 (Int32.not_le.mp h22))))], _, _, rfl⟩
theorem C_Mod_rank (l : Launch) {g : gG} {A : Nat → Prop} {ad : Nat → Nat} {np : Nat} {u : gS} {a x : gA} {o : gL} {nm ng hp : Nat} {w1 w2 : Int32} (hw : WFw nm a) (hng : a 0 25 = nI ng) (hd : dst (a 15) ng nm) (hhp : a 0 15 = nI hp) (hp4 : hp ≤ 4) : CtL l y_Mod_rank b_Mod_rank 3 5 [.ref (ad 74), .int w1, .int w2] g A ad np u (a, x, o) (fun r t => r = rRk a w1 w2 ∧ ∃ x' o', t = (u, (a, x', o'))) := mkL (by decide) rfl (Nat.le_of_ble_eq_true rfl) (B_Mod_rank l hw hng hd hhp hp4)

set_option maxHeartbeats 400000 in
set_option maxRecDepth 20000 in
theorem B_Mod_score (l : Launch) {g : gG} {A : Nat → Prop} {ad : Nat → Nat} {np : Nat} {u : gS} {a x : gA} {o : gL} {nm ng hp P : Nat} {w1 w2 : Int32} (hw : WFw nm a) (hng : a 0 25 = nI ng) (hd : dst (a 15) ng nm) (hon : ¬ a 0 13 = 0) (hP : P < nm) (hrk : o 0 P = rkF a hp 8 P) : BdL l b_Mod_score 7 R_Mod 3 [.ref (ad 74), .int (nI P), .int w1, .int w2] g A ad np u (a, x, o) (fun r t => t = (u, (a, x, o)) ∧ r = scF a hp w1 w2 P) := by
  intro p e R s m args below meth c Q ls X hW hS hR hl hret
  have hx := X.1.1
  have hb := X.1.2.1
  have hml := X.1.2.2.1
  have hown := X.1.2.2.2.1
  have hts := X.1.2.2.2.2
  have hK := X.2.1
  have hl : lv_has ls 7 [(0, .ref (ad 74)), (1, .int (nI P)), (2, .int w1), (3, .int w2)] := hl
  have hnp := hw.1
  obtain ⟨wp, hwp8, hwp⟩ := (hw.2.2.1 P hP).2.2.2.1
  refine lv_iconst (v := 0) hx hb d_Mod_score_0 (by decide) ?_
  refine lv_istore hx hb d_Mod_score_1 hl (by decide) rfl (fun ls hl => ?_)
  have hl : lv_has ls 7 [(4, .int 0), (0, .ref (ad 74)), (1, .int (nI P)), (2, .int w1), (3, .int w2)] := hl
  refine lv_iconst (v := 0) hx hb d_Mod_score_3 (by decide) ?_
  refine lv_istore hx hb d_Mod_score_4 hl (by decide) rfl (fun ls hl => ?_)
  have hl : lv_has ls 7 [(5, .int 0), (4, .int 0), (0, .ref (ad 74)), (1, .int (nI P)), (2, .int w1), (3, .int w2)] := hl
  have lp6 : ∀ (fuel : Nat) (i : Nat) (ls : Array Slot) (H : Heap) (locs : List Loc), (i ≤ wp) → wp - i < fuel → lv_has ls 7 [(0, .ref (ad 74)), (1, .int (nI P)), (2, .int w1), (3, .int w2), (4, .int (nI (pCt (fun i => a 4 (8 * P + i)) w1 w2 i))), (5, .int (nI i))] → gW g A ad np u (a, x, o) H → va_S A s.heap H locs → W p l e R s m args below meth c H locs 0 0 Q (F0 m 6 ls []) := by
    intro fuel
    induction fuel with
    | zero => intro i ls H locs _ hfu; exact absurd hfu (Nat.not_lt_zero _)
    | succ fuel ih6 =>
      intro i ls H locs hi hfu hl hW hS
      refine lv_iload hx hb d_Mod_score_6 (lv_at hl 5 rfl) ?_
      refine lv_aload_n hx hb d_Mod_score_8 rfl (lv_at hl 0 rfl) ?_
      refine gf_Mod_22 X hW  d_Mod_score_9 ?_
      refine lv_iload_n hx hb d_Mod_score_12 rfl (lv_at hl 1 rfl) ?_
      refine gy_ia (z := nI wp) (q := (2, 5, P)) hx hb hK hW (by omega) rfl (show vp_in _ 32 from vp_in_nI (by omega) (by decide)) (gv_2_5 (by omega)) ((gi_2_5 _).trans (by rw [nI_clamp (by omega)])) hwp d_Mod_score_13 ?_
      refine lv_icmp_ge (tgt := 60) hx hb d_Mod_score_14 (by decide) (fun h14 => ?_) (fun h14 => ?_)
      · -- 14 t
        have h14 : wp ≤ i := (nI_leI (a := wp) (b := i) (by omega) (by omega)).mp h14
        refine lv_aload_n hx hb d_Mod_score_60 rfl (lv_at hl 0 rfl) ?_
        refine lv_iload_n hx hb d_Mod_score_61 rfl (lv_at hl 1 rfl) ?_
        refine gc_iV (As := [.int (nI P)]) (b := ad 74) (rest := []) X cw_Mod_181 (C_Mod_isDocument l (u := u) (a := a) (x := x) (o := o) (nm := nm) (w1 := nI P) hw hng hd hon) hW hS (gW_recv (ci := 7) (fs := gf7 ad) hK hW (by omega) (fun σ τ => ge_7 rfl σ τ) (r := (R_Mod, F_Mod, 37)) rfl) ⟨Nat.le_trans (Nat.le_of_ble_eq_true rfl) hR.1, Nat.le_trans (Nat.le_of_ble_eq_true rfl) hR.2⟩ rfl hl.1 rfl (Nat.le_of_ble_eq_true rfl) d_Mod_score_62 ⟨Nat.zero_le _, Nat.zero_le _⟩ (fun r t H locs hp hW hS => ?_)
        obtain ⟨rfl, rfl⟩ := hp
        have hW : gW g A ad np u (a, x, o) H := hW
        refine lv_if_eq (tgt := 81) hx hb d_Mod_score_65 (by decide) (fun h65 => ?_) (fun h65 => ?_)
        · -- 65 t
          have h65 : (sIsD a (nI P)) = false := bI_0 h65
          refine lv_lconst (v := 0) hx hb d_Mod_score_81 (by decide) ?_
          refine hret 0 (u, (a, x, o)) _ _ _ _ ?_ hW hS d_Mod_score_82
          exact ⟨rfl, by unfold scF; rw [if_neg (by rw [h65]; decide)]⟩
        · -- 65 f
          have h65 : (sIsD a (nI P)) = true := bI_n0 h65
          refine lv_iload hx hb d_Mod_score_68 (lv_at hl 4 rfl) ?_
          refine lv_i2l hx hb d_Mod_score_70 rfl ?_
          refine lv_aload_n hx hb d_Mod_score_71 rfl (lv_at hl 0 rfl) ?_
          refine gf_Mod_62 X hW  d_Mod_score_72 ?_
          refine lv_iload_n hx hb d_Mod_score_75 rfl (lv_at hl 1 rfl) ?_
          refine gy_laM (w := rkF a hp 8 P) (k := 0) hx hb hK hW (by decide) (vp_in_nI (by omega) (by decide)) (by rw [nI_clamp (by omega)]; exact hrk) d_Mod_score_76 ?_
          refine lv_lmul hx hb d_Mod_score_77 ?_
          refine lv_goto (tgt := 82) hx hb d_Mod_score_78 (by decide) ?_
          refine hret (((nI (pCt (fun i => a 4 (8 * P + i)) w1 w2 i)).toInt64) * (rkF a hp 8 P)) (u, (a, x, o)) _ _ _ _ ?_ hW hS d_Mod_score_82
          exact ⟨rfl, by unfold scF; rw [if_pos h65, hwp, nI_clamp (by omega), show wp = i by omega]⟩
      · -- 14 f
        have h14 : i < wp := Nat.lt_of_not_le fun q => h14 ((nI_leI (a := wp) (b := i) (by omega) (by omega)).mpr q)
        refine lv_aload_n hx hb d_Mod_score_17 rfl (lv_at hl 0 rfl) ?_
        refine gf_Mod_19 X hW  d_Mod_score_18 ?_
        refine lv_bipush (v := 8) hx hb d_Mod_score_21 (by decide) ?_
        refine lv_iload_n hx hb d_Mod_score_23 rfl (lv_at hl 1 rfl) ?_
        refine lv_imul hx hb d_Mod_score_24 ?_
        rw [show 8 * (nI P) = nI (8 * P) from pk_mul 8 P]
        refine lv_iload hx hb d_Mod_score_25 (lv_at hl 5 rfl) ?_
        refine lv_iadd hx hb d_Mod_score_27 ?_
        rw [show (nI (8 * P)) + (nI i) = nI (8 * P + i) from nI_add _ _]
        refine gy_ia (z := a 4 (8 * P + i)) (q := (2, 4, (8 * P + i))) hx hb hK hW (by omega) rfl (show vp_in _ 256 from vp_in_nI (by omega) (by decide)) (gv_2_4 (by omega)) ((gi_2_4 _).trans (by rw [nI_clamp (by omega)])) rfl d_Mod_score_28 ?_
        refine lv_istore hx hb d_Mod_score_29 hl (by decide) rfl (fun ls hl => ?_)
        have hl : lv_has ls 7 [(6, .int (a 4 (8 * P + i))), (0, .ref (ad 74)), (1, .int (nI P)), (2, .int w1), (3, .int w2), (4, .int (nI (pCt (fun i => a 4 (8 * P + i)) w1 w2 i))), (5, .int (nI i))] := hl
        refine lv_iload hx hb d_Mod_score_31 (lv_at hl 0 rfl) ?_
        refine lv_iload_n hx hb d_Mod_score_33 rfl (lv_at hl 3 rfl) ?_
        refine lv_icmp_eq (tgt := 43) hx hb d_Mod_score_34 (by decide) (fun h34 => ?_) (fun h34 => ?_)
        · -- 34 t
          refine lv_iload hx hb d_Mod_score_43 (lv_at hl 5 rfl) ?_
          refine lv_iconst (v := 1) hx hb d_Mod_score_45 (by decide) ?_
          refine lv_iadd hx hb d_Mod_score_46 ?_
          rw [show (nI (pCt (fun i => a 4 (8 * P + i)) w1 w2 i)) + 1 = nI (pCt (fun i => a 4 (8 * P + i)) w1 w2 i + 1) from nI_1 _]
          refine lv_goto (tgt := 52) hx hb d_Mod_score_47 (by decide) ?_
          refine lv_istore hx hb d_Mod_score_52 hl (by decide) rfl (fun ls hl => ?_)
          have hl : lv_has ls 7 [(4, .int (nI (pCt (fun i => a 4 (8 * P + i)) w1 w2 i + 1))), (6, .int (a 4 (8 * P + i))), (0, .ref (ad 74)), (1, .int (nI P)), (2, .int w1), (3, .int w2), (5, .int (nI i))] := hl
          refine lv_iinc (v := nI (i + 1)) (k := 6) hx hb d_Mod_score_54 hl rfl (nI_inc i) (by decide) rfl (fun ls hl => ?_)
          have hl : lv_has ls 7 [(5, .int (nI (i + 1))), (4, .int (nI (pCt (fun i => a 4 (8 * P + i)) w1 w2 i + 1))), (6, .int (a 4 (8 * P + i))), (0, .ref (ad 74)), (1, .int (nI P)), (2, .int w1), (3, .int w2)] := hl
          refine lv_goto (tgt := 6) hx hb d_Mod_score_57 (by decide) ?_
          have e9 : pCt (fun i => a 4 (8 * P + i)) w1 w2 (i + 1) = _ := pCt_y (by first | exact Or.inl h34 | exact Or.inr h40)
          exact ih6 (i + 1) _ _ _ (by omega) (by omega) (by rw [e9]; exact (lv_sub hl [3, 4, 5, 6, 1, 0] rfl)) hW hS
        · -- 34 f
          refine lv_iload hx hb d_Mod_score_37 (lv_at hl 0 rfl) ?_
          refine lv_iload_n hx hb d_Mod_score_39 rfl (lv_at hl 4 rfl) ?_
          refine lv_icmp_ne (tgt := 50) hx hb d_Mod_score_40 (by decide) (fun h40 => ?_) (fun h40 => ?_)
          · -- 40 t
            refine lv_iload hx hb d_Mod_score_50 (lv_at hl 5 rfl) ?_
            refine lv_istore hx hb d_Mod_score_52 hl (by decide) rfl (fun ls hl => ?_)
            have hl : lv_has ls 7 [(4, .int (nI (pCt (fun i => a 4 (8 * P + i)) w1 w2 i))), (6, .int (a 4 (8 * P + i))), (0, .ref (ad 74)), (1, .int (nI P)), (2, .int w1), (3, .int w2), (5, .int (nI i))] := hl
            refine lv_iinc (v := nI (i + 1)) (k := 6) hx hb d_Mod_score_54 hl rfl (nI_inc i) (by decide) rfl (fun ls hl => ?_)
            have hl : lv_has ls 7 [(5, .int (nI (i + 1))), (4, .int (nI (pCt (fun i => a 4 (8 * P + i)) w1 w2 i))), (6, .int (a 4 (8 * P + i))), (0, .ref (ad 74)), (1, .int (nI P)), (2, .int w1), (3, .int w2)] := hl
            refine lv_goto (tgt := 6) hx hb d_Mod_score_57 (by decide) ?_
            have e9 : pCt (fun i => a 4 (8 * P + i)) w1 w2 (i + 1) = _ := pCt_n h34 h40
            exact ih6 (i + 1) _ _ _ (by omega) (by omega) (by rw [e9]; exact (lv_sub hl [3, 4, 5, 6, 1, 0] rfl)) hW hS
          · -- 40 f
            refine lv_iload hx hb d_Mod_score_43 (lv_at hl 5 rfl) ?_
            refine lv_iconst (v := 1) hx hb d_Mod_score_45 (by decide) ?_
            refine lv_iadd hx hb d_Mod_score_46 ?_
            rw [show (nI (pCt (fun i => a 4 (8 * P + i)) w1 w2 i)) + 1 = nI (pCt (fun i => a 4 (8 * P + i)) w1 w2 i + 1) from nI_1 _]
            refine lv_goto (tgt := 52) hx hb d_Mod_score_47 (by decide) ?_
            refine lv_istore hx hb d_Mod_score_52 hl (by decide) rfl (fun ls hl => ?_)
            have hl : lv_has ls 7 [(4, .int (nI (pCt (fun i => a 4 (8 * P + i)) w1 w2 i + 1))), (6, .int (a 4 (8 * P + i))), (0, .ref (ad 74)), (1, .int (nI P)), (2, .int w1), (3, .int w2), (5, .int (nI i))] := hl
            refine lv_iinc (v := nI (i + 1)) (k := 6) hx hb d_Mod_score_54 hl rfl (nI_inc i) (by decide) rfl (fun ls hl => ?_)
            have hl : lv_has ls 7 [(5, .int (nI (i + 1))), (4, .int (nI (pCt (fun i => a 4 (8 * P + i)) w1 w2 i + 1))), (6, .int (a 4 (8 * P + i))), (0, .ref (ad 74)), (1, .int (nI P)), (2, .int w1), (3, .int w2)] := hl
            refine lv_goto (tgt := 6) hx hb d_Mod_score_57 (by decide) ?_
            have e9 : pCt (fun i => a 4 (8 * P + i)) w1 w2 (i + 1) = _ := pCt_y (by first | exact Or.inl h34 | exact Or.inr h40)
            exact ih6 (i + 1) _ _ _ (by omega) (by omega) (by rw [e9]; exact (lv_sub hl [3, 4, 5, 6, 1, 0] rfl)) hW hS
  exact lp6 _ 0 _ _ _ (Nat.zero_le _) (Nat.lt_succ_self _) (lv_sub hl [2, 3, 4, 5, 1, 0] rfl) hW hS
theorem C_Mod_score (l : Launch) {g : gG} {A : Nat → Prop} {ad : Nat → Nat} {np : Nat} {u : gS} {a x : gA} {o : gL} {nm ng hp P : Nat} {w1 w2 : Int32} (hw : WFw nm a) (hng : a 0 25 = nI ng) (hd : dst (a 15) ng nm) (hon : ¬ a 0 13 = 0) (hP : P < nm) (hrk : o 0 P = rkF a hp 8 P) : CtL l y_Mod_score b_Mod_score 7 3 [.ref (ad 74), .int (nI P), .int w1, .int w2] g A ad np u (a, x, o) (fun r t => t = (u, (a, x, o)) ∧ r = scF a hp w1 w2 P) := mkL (by decide) rfl (Nat.le_of_ble_eq_true rfl) (B_Mod_score l hw hng hd hon hP hrk)

set_option maxHeartbeats 400000 in
set_option maxRecDepth 20000 in
theorem B_Mod_comesBefore (l : Launch) {g : gG} {A : Nat → Prop} {ad : Nat → Nat} {np : Nat} {u : gS} {a x : gA} {o : gL} {nm ng hp P Q1 : Nat} {w1 w2 : Int32} (hw : WFw nm a) (hng : a 0 25 = nI ng) (hd : dst (a 15) ng nm) (hon : ¬ a 0 13 = 0) (hrk : ∀ p, p < nm → o 0 p = rkF a hp 8 p) (hP : P < nm) (hQ : Q1 < nm) : BdI l b_Mod_comesBefore 9 R_Mod 4 [.ref (ad 74), .int (nI P), .int (nI Q1), .int w1, .int w2] g A ad np u (a, x, o) (fun r t => t = (u, (a, x, o)) ∧ r = bI (bfF a hp w1 w2 P Q1)) := by
  intro p e R s m args below meth c Q ls X hW hS hR hl hret
  have hx := X.1.1
  have hb := X.1.2.1
  have hml := X.1.2.2.1
  have hown := X.1.2.2.2.1
  have hts := X.1.2.2.2.2
  have hK := X.2.1
  have hl : lv_has ls 9 [(0, .ref (ad 74)), (1, .int (nI P)), (2, .int (nI Q1)), (3, .int w1), (4, .int w2)] := hl
  have hnp := hw.1
  refine lv_aload_n hx hb d_Mod_comesBefore_0 rfl (lv_at hl 0 rfl) ?_
  refine lv_iload_n hx hb d_Mod_comesBefore_1 rfl (lv_at hl 1 rfl) ?_
  refine lv_iload_n hx hb d_Mod_comesBefore_2 rfl (lv_at hl 3 rfl) ?_
  refine lv_iload hx hb d_Mod_comesBefore_3 (lv_at hl 4 rfl) ?_
  refine gc_lV (As := [.int (nI P), .int w1, .int w2]) (b := ad 74) (rest := []) X cw_Mod_187 (C_Mod_score l (u := u) (a := a) (x := x) (o := o) (nm := nm) (hp := hp) (P := P) (w1 := w1) (w2 := w2) hw hng hd hon hP (hrk _ hP)) hW hS (gW_recv (ci := 7) (fs := gf7 ad) hK hW (by omega) (fun σ τ => ge_7 rfl σ τ) (r := (R_Mod, F_Mod, 37)) rfl) ⟨Nat.le_trans (Nat.le_of_ble_eq_true rfl) hR.1, Nat.le_trans (Nat.le_of_ble_eq_true rfl) hR.2⟩ rfl hl.1 rfl (Nat.le_of_ble_eq_true rfl) d_Mod_comesBefore_5 ⟨Nat.zero_le _, Nat.zero_le _⟩ (fun r t H locs hp hW hS => ?_)
  obtain ⟨rfl, rfl⟩ := hp
  have hW : gW g A ad np u (a, x, o) H := hW
  refine lv_lstore hx hb d_Mod_comesBefore_8 hl (by decide) rfl (fun ls hl => ?_)
  have hl : lv_has ls 9 [(5, .long (scF a hp w1 w2 P)), (0, .ref (ad 74)), (1, .int (nI P)), (2, .int (nI Q1)), (3, .int w1), (4, .int w2)] := hl
  refine lv_aload_n hx hb d_Mod_comesBefore_10 rfl (lv_at hl 1 rfl) ?_
  refine lv_iload_n hx hb d_Mod_comesBefore_11 rfl (lv_at hl 3 rfl) ?_
  refine lv_iload_n hx hb d_Mod_comesBefore_12 rfl (lv_at hl 4 rfl) ?_
  refine lv_iload hx hb d_Mod_comesBefore_13 (lv_at hl 5 rfl) ?_
  refine gc_lV (As := [.int (nI Q1), .int w1, .int w2]) (b := ad 74) (rest := []) X cw_Mod_187 (C_Mod_score l (u := u) (a := a) (x := x) (o := o) (nm := nm) (hp := hp) (P := Q1) (w1 := w1) (w2 := w2) hw hng hd hon hQ (hrk _ hQ)) hW hS (gW_recv (ci := 7) (fs := gf7 ad) hK hW (by omega) (fun σ τ => ge_7 rfl σ τ) (r := (R_Mod, F_Mod, 37)) rfl) ⟨Nat.le_trans (Nat.le_of_ble_eq_true rfl) hR.1, Nat.le_trans (Nat.le_of_ble_eq_true rfl) hR.2⟩ rfl hl.1 rfl (Nat.le_of_ble_eq_true rfl) d_Mod_comesBefore_15 ⟨Nat.zero_le _, Nat.zero_le _⟩ (fun r t H locs hp hW hS => ?_)
  obtain ⟨rfl, rfl⟩ := hp
  have hW : gW g A ad np u (a, x, o) H := hW
  refine lv_lstore hx hb d_Mod_comesBefore_18 hl (by decide) rfl (fun ls hl => ?_)
  have hl : lv_has ls 9 [(7, .long (scF a hp w1 w2 Q1)), (5, .long (scF a hp w1 w2 P)), (0, .ref (ad 74)), (1, .int (nI P)), (2, .int (nI Q1)), (3, .int w1), (4, .int w2)] := hl
  refine lv_lload hx hb d_Mod_comesBefore_20 (lv_at hl 1 rfl) ?_
  refine lv_lload hx hb d_Mod_comesBefore_22 (lv_at hl 0 rfl) ?_
  refine W.lcmp hx hb d_Mod_comesBefore_24 ?_
  refine lv_if_eq (tgt := 42) hx hb d_Mod_comesBefore_25 (by decide) (fun h25 => ?_) (fun h25 => ?_)
  · -- 25 t
    refine lv_aload_n hx hb d_Mod_comesBefore_42 rfl (lv_at hl 2 rfl) ?_
    refine gf_Mod_7 X hW  d_Mod_comesBefore_43 ?_
    refine lv_iload_n hx hb d_Mod_comesBefore_46 rfl (lv_at hl 3 rfl) ?_
    refine gy_ia (z := a 1 P) (q := (2, 1, P)) hx hb hK hW (by omega) rfl (show vp_in _ 32 from vp_in_nI (by omega) (by decide)) (gv_2_1 (by omega)) ((gi_2_1 _).trans (by rw [nI_clamp (by omega)])) rfl d_Mod_comesBefore_47 ?_
    refine lv_aload_n hx hb d_Mod_comesBefore_48 rfl (lv_at hl 2 rfl) ?_
    refine gf_Mod_7 X hW  d_Mod_comesBefore_49 ?_
    refine lv_iload_n hx hb d_Mod_comesBefore_52 rfl (lv_at hl 4 rfl) ?_
    refine gy_ia (z := a 1 Q1) (q := (2, 1, Q1)) hx hb hK hW (by omega) rfl (show vp_in _ 32 from vp_in_nI (by omega) (by decide)) (gv_2_1 (by omega)) ((gi_2_1 _).trans (by rw [nI_clamp (by omega)])) rfl d_Mod_comesBefore_53 ?_
    refine lv_icmp_lt (tgt := 87) hx hb d_Mod_comesBefore_54 (by decide) (fun h54 => ?_) (fun h54 => ?_)
    · -- 54 t
      refine lv_iconst (v := 1) hx hb d_Mod_comesBefore_87 (by decide) ?_
      refine lv_goto (tgt := 92) hx hb d_Mod_comesBefore_88 (by decide) ?_
      refine hret 1 (u, (a, x, o)) _ _ _ _ ?_ hW hS d_Mod_comesBefore_92
      refine ⟨rfl, ?_⟩
      unfold bfF sBef
      rw [if_pos (lg0.mp h25)]
      first
        | (rw [if_neg (fun q => absurd h54 (by rw [q]; exact i_irr _)), decide_eq_true h54]; rfl)
        | (rw [if_pos h69, decide_eq_true (Int32.not_le.mp h84)]; rfl)
    · -- 54 f
      refine lv_aload_n hx hb d_Mod_comesBefore_57 rfl (lv_at hl 2 rfl) ?_
      refine gf_Mod_7 X hW  d_Mod_comesBefore_58 ?_
      refine lv_iload_n hx hb d_Mod_comesBefore_61 rfl (lv_at hl 3 rfl) ?_
      refine gy_ia (z := a 1 P) (q := (2, 1, P)) hx hb hK hW (by omega) rfl (show vp_in _ 32 from vp_in_nI (by omega) (by decide)) (gv_2_1 (by omega)) ((gi_2_1 _).trans (by rw [nI_clamp (by omega)])) rfl d_Mod_comesBefore_62 ?_
      refine lv_aload_n hx hb d_Mod_comesBefore_63 rfl (lv_at hl 2 rfl) ?_
      refine gf_Mod_7 X hW  d_Mod_comesBefore_64 ?_
      refine lv_iload_n hx hb d_Mod_comesBefore_67 rfl (lv_at hl 4 rfl) ?_
      refine gy_ia (z := a 1 Q1) (q := (2, 1, Q1)) hx hb hK hW (by omega) rfl (show vp_in _ 32 from vp_in_nI (by omega) (by decide)) (gv_2_1 (by omega)) ((gi_2_1 _).trans (by rw [nI_clamp (by omega)])) rfl d_Mod_comesBefore_68 ?_
      refine lv_icmp_ne (tgt := 91) hx hb d_Mod_comesBefore_69 (by decide) (fun h69 => ?_) (fun h69 => ?_)
      · -- 69 t
        refine lv_iconst (v := 0) hx hb d_Mod_comesBefore_91 (by decide) ?_
        refine hret 0 (u, (a, x, o)) _ _ _ _ ?_ hW hS d_Mod_comesBefore_92
        refine ⟨rfl, ?_⟩
        unfold bfF sBef
        rw [if_pos (lg0.mp h25)]
        first
          | (rw [if_neg h69, decide_eq_false h54]; rfl)
          | (rw [if_pos h69, decide_eq_false (Int32.not_lt.mpr h84)]; rfl)
      · -- 69 f
        refine lv_aload_n hx hb d_Mod_comesBefore_72 rfl (lv_at hl 2 rfl) ?_
        refine gf_Mod_13 X hW  d_Mod_comesBefore_73 ?_
        refine lv_iload_n hx hb d_Mod_comesBefore_76 rfl (lv_at hl 3 rfl) ?_
        refine gy_ia (z := a 2 P) (q := (2, 2, P)) hx hb hK hW (by omega) rfl (show vp_in _ 32 from vp_in_nI (by omega) (by decide)) (gv_2_2 (by omega)) ((gi_2_2 _).trans (by rw [nI_clamp (by omega)])) rfl d_Mod_comesBefore_77 ?_
        refine lv_aload_n hx hb d_Mod_comesBefore_78 rfl (lv_at hl 2 rfl) ?_
        refine gf_Mod_13 X hW  d_Mod_comesBefore_79 ?_
        refine lv_iload_n hx hb d_Mod_comesBefore_82 rfl (lv_at hl 4 rfl) ?_
        refine gy_ia (z := a 2 Q1) (q := (2, 2, Q1)) hx hb hK hW (by omega) rfl (show vp_in _ 32 from vp_in_nI (by omega) (by decide)) (gv_2_2 (by omega)) ((gi_2_2 _).trans (by rw [nI_clamp (by omega)])) rfl d_Mod_comesBefore_83 ?_
        refine lv_icmp_ge (tgt := 91) hx hb d_Mod_comesBefore_84 (by decide) (fun h84 => ?_) (fun h84 => ?_)
        · -- 84 t
          refine lv_iconst (v := 0) hx hb d_Mod_comesBefore_91 (by decide) ?_
          refine hret 0 (u, (a, x, o)) _ _ _ _ ?_ hW hS d_Mod_comesBefore_92
          refine ⟨rfl, ?_⟩
          unfold bfF sBef
          rw [if_pos (lg0.mp h25)]
          first
            | (rw [if_neg h69, decide_eq_false h54]; rfl)
            | (rw [if_pos h69, decide_eq_false (Int32.not_lt.mpr h84)]; rfl)
        · -- 84 f
          refine lv_iconst (v := 1) hx hb d_Mod_comesBefore_87 (by decide) ?_
          refine lv_goto (tgt := 92) hx hb d_Mod_comesBefore_88 (by decide) ?_
          refine hret 1 (u, (a, x, o)) _ _ _ _ ?_ hW hS d_Mod_comesBefore_92
          refine ⟨rfl, ?_⟩
          unfold bfF sBef
          rw [if_pos (lg0.mp h25)]
          first
            | (rw [if_neg (fun q => absurd h54 (by rw [q]; exact i_irr _)), decide_eq_true h54]; rfl)
            | (rw [if_pos h69, decide_eq_true (Int32.not_le.mp h84)]; rfl)
  · -- 25 f
    refine lv_lload hx hb d_Mod_comesBefore_28 (lv_at hl 1 rfl) ?_
    refine lv_lload hx hb d_Mod_comesBefore_30 (lv_at hl 0 rfl) ?_
    refine W.lcmp hx hb d_Mod_comesBefore_32 ?_
    refine lv_if_le (tgt := 40) hx hb d_Mod_comesBefore_33 (by decide) (fun h33 => ?_) (fun h33 => ?_)
    · -- 33 t
      refine lv_iconst (v := 0) hx hb d_Mod_comesBefore_40 (by decide) ?_
      refine hret 0 (u, (a, x, o)) _ _ _ _ ?_ hW hS d_Mod_comesBefore_41
      exact ⟨rfl, by unfold bfF; rw [if_neg (fun q => h25 (lg0.mpr q)), decide_eq_false (Int64.not_lt.mpr ((lg_cmp_le _ _).mp h33))]; rfl⟩
    · -- 33 f
      refine lv_iconst (v := 1) hx hb d_Mod_comesBefore_36 (by decide) ?_
      refine lv_goto (tgt := 41) hx hb d_Mod_comesBefore_37 (by decide) ?_
      refine hret 1 (u, (a, x, o)) _ _ _ _ ?_ hW hS d_Mod_comesBefore_41
      exact ⟨rfl, by unfold bfF; rw [if_neg (fun q => h25 (lg0.mpr q)), decide_eq_true (Int64.not_le.mp (fun q => h33 ((lg_cmp_le _ _).mpr q)))]; rfl⟩
theorem C_Mod_comesBefore (l : Launch) {g : gG} {A : Nat → Prop} {ad : Nat → Nat} {np : Nat} {u : gS} {a x : gA} {o : gL} {nm ng hp P Q1 : Nat} {w1 w2 : Int32} (hw : WFw nm a) (hng : a 0 25 = nI ng) (hd : dst (a 15) ng nm) (hon : ¬ a 0 13 = 0) (hrk : ∀ p, p < nm → o 0 p = rkF a hp 8 p) (hP : P < nm) (hQ : Q1 < nm) : CtI l y_Mod_comesBefore b_Mod_comesBefore 9 .boolean 4 [.ref (ad 74), .int (nI P), .int (nI Q1), .int w1, .int w2] g A ad np u (a, x, o) (fun r t => t = (u, (a, x, o)) ∧ r = bI (bfF a hp w1 w2 P Q1)) := mkI (by decide) rfl (Nat.le_of_ble_eq_true rfl) (fun r t h => h.2 ▸ bI_nar _) (B_Mod_comesBefore l hw hng hd hon hrk hP hQ)

set_option maxHeartbeats 400000 in
set_option maxRecDepth 20000 in
theorem B_Mod_best (l : Launch) {g : gG} {A : Nat → Prop} {ad : Nat → Nat} {np : Nat} {u : gS} {a x : gA} {o : gL} {nm ng hp : Nat} {w1 w2 w3 : Int32} (hw : WFw nm a) (hng : a 0 25 = nI ng) (hd : dst (a 15) ng nm) (hhp : a 0 15 = nI hp) (hp4 : hp ≤ 4) : BdI l b_Mod_best 9 R_Mod 5 [.ref (ad 74), .int w1, .int w2, .int w3] g A ad np u (a, x, o) (fun r t => r = rBs a w1 w2 w3 ∧ ∃ x' o', t = (u, (a, x', o'))) := by
  intro p e R s m args below meth c Q ls X hW hS hR hl hret
  have hx := X.1.1
  have hb := X.1.2.1
  have hml := X.1.2.2.1
  have hown := X.1.2.2.2.1
  have hts := X.1.2.2.2.2
  have hK := X.2.1
  have hl : lv_has ls 9 [(0, .ref (ad 74)), (1, .int w1), (2, .int w2), (3, .int w3)] := hl
  have hnp := hw.1
  have hng32 := dst_le hd hnp
  have hcn : cn a 25 = ng := cn_of hng (by omega)
  refine lv_aload_n hx hb d_Mod_best_0 rfl (lv_at hl 0 rfl) ?_
  refine gf_Mod_73 (z := a 0 13) X hW  (gv_2_0_13 _) rfl rfl d_Mod_best_1 ?_
  refine lv_if_ne (tgt := 9) hx hb d_Mod_best_4 (by decide) (fun h4 => ?_) (fun h4 => ?_)
  · -- 4 t
    refine lv_aload_n hx hb d_Mod_best_9 rfl (lv_at hl 0 rfl) ?_
    refine lv_bipush (v := 8) hx hb d_Mod_best_10 (by decide) ?_
    refine gc_vV (As := [.int 8]) (b := ad 74) (rest := []) X cw_Mod_184 (C_Mod_rankAll l (u := u) (a := a) (x := x) (o := o) (nm := nm) (rr := 8) hw hng hd h4 hhp hp4 (by decide)) hW hS (gW_recv (ci := 7) (fs := gf7 ad) hK hW (by omega) (fun σ τ => ge_7 rfl σ τ) (r := (R_Mod, F_Mod, 37)) rfl) ⟨Nat.le_trans (Nat.le_of_ble_eq_true rfl) hR.1, Nat.le_trans (Nat.le_of_ble_eq_true rfl) hR.2⟩ rfl hl.1 rfl (Nat.le_of_ble_eq_true rfl) d_Mod_best_12 ⟨Nat.zero_le _, Nat.zero_le _⟩ (fun t H locs hp hW hS => ?_)
    obtain ⟨x', o', rfl, hrk⟩ := hp
    have hon := h4
    have hW : gW g A ad np u (a, x', o') H := hW
    refine lv_iconst (v := 0) hx hb d_Mod_best_15 (by decide) ?_
    refine lv_istore hx hb d_Mod_best_16 hl (by decide) rfl (fun ls hl => ?_)
    have hl : lv_has ls 9 [(4, .int 0), (0, .ref (ad 74)), (1, .int w1), (2, .int w2), (3, .int w3)] := hl
    have lp18 : ∀ (fuel : Nat) (i : Nat) (ls : Array Slot) (H : Heap) (locs : List Loc), (i ≤ ng) → (bsF a hp w1 w2 w3 i = -1) → ng - i < fuel → lv_has ls 9 [(0, .ref (ad 74)), (1, .int w1), (2, .int w2), (3, .int w3), (4, .int (nI i))] → gW g A ad np u (a, x', o') H → va_S A s.heap H locs → W p l e R s m args below meth c H locs 0 0 Q (F0 m 18 ls []) := by
      intro fuel
      induction fuel with
      | zero => intro i ls H locs _ _ hfu; exact absurd hfu (Nat.not_lt_zero _)
      | succ fuel ih18 =>
        intro i ls H locs hi hbs hfu hl hW hS
        refine lv_iload hx hb d_Mod_best_18 (lv_at hl 4 rfl) ?_
        refine lv_aload_n hx hb d_Mod_best_20 rfl (lv_at hl 0 rfl) ?_
        refine gf_Mod_114 (z := nI ng) X hW  (gv_2_0_25 _) rfl hng d_Mod_best_21 ?_
        refine lv_icmp_ge (tgt := 144) hx hb d_Mod_best_24 (by decide) (fun h24 => ?_) (fun h24 => ?_)
        · -- 24 t
          have h24 : ng ≤ i := (nI_leI (a := ng) (b := i) (by omega) (by omega)).mp h24
          refine lv_iconst (v := (-1)) hx hb d_Mod_best_144 (by decide) ?_
          refine hret (-1) (u, (a, x', o')) _ _ _ _ ?_ hW hS d_Mod_best_145
          refine ⟨?_, _, _, rfl⟩
          unfold rBs
          rw [if_neg hon, cn_of hhp (by omega), hcn, show ng = i by omega, hbs]
        · -- 24 f
          have h24 : i < ng := Nat.lt_of_not_le fun q => h24 ((nI_leI (a := ng) (b := i) (by omega) (by omega)).mpr q)
          obtain ⟨P, hP, ei⟩ := hd.1 i (by omega)
          refine lv_aload_n hx hb d_Mod_best_27 rfl (lv_at hl 0 rfl) ?_
          refine gf_Mod_53 X hW  d_Mod_best_28 ?_
          refine lv_iload hx hb d_Mod_best_31 (lv_at hl 4 rfl) ?_
          refine gy_ia (z := nI P) (q := (2, 15, i)) hx hb hK hW (by omega) rfl (show vp_in _ 32 from vp_in_nI (by omega) (by decide)) (gv_2_15 (by omega)) ((gi_2_15 _).trans (by rw [nI_clamp (by omega)])) ei d_Mod_best_33 ?_
          refine lv_istore hx hb d_Mod_best_34 hl (by decide) rfl (fun ls hl => ?_)
          have hl : lv_has ls 9 [(5, .int (nI P)), (0, .ref (ad 74)), (1, .int w1), (2, .int w2), (3, .int w3), (4, .int (nI i))] := hl
          refine lv_aload_n hx hb d_Mod_best_36 rfl (lv_at hl 1 rfl) ?_
          refine lv_iload hx hb d_Mod_best_37 (lv_at hl 0 rfl) ?_
          refine lv_iload_n hx hb d_Mod_best_39 rfl (lv_at hl 2 rfl) ?_
          refine lv_iload_n hx hb d_Mod_best_40 rfl (lv_at hl 3 rfl) ?_
          refine gc_lV (As := [.int (nI P), .int w1, .int w2]) (b := ad 74) (rest := []) X cw_Mod_187 (C_Mod_score l (u := u) (a := a) (x := x') (o := o') (nm := nm) (hp := hp) (P := P) (w1 := w1) (w2 := w2) hw hng hd hon hP (hrk _ hP)) hW hS (gW_recv (ci := 7) (fs := gf7 ad) hK hW (by omega) (fun σ τ => ge_7 rfl σ τ) (r := (R_Mod, F_Mod, 37)) rfl) ⟨Nat.le_trans (Nat.le_of_ble_eq_true rfl) hR.1, Nat.le_trans (Nat.le_of_ble_eq_true rfl) hR.2⟩ rfl hl.1 rfl (Nat.le_of_ble_eq_true rfl) d_Mod_best_41 ⟨Nat.zero_le _, Nat.zero_le _⟩ (fun r t H locs hp hW hS => ?_)
          obtain ⟨rfl, rfl⟩ := hp
          have hW : gW g A ad np u (a, x', o') H := hW
          refine lv_lconst (v := 0) hx hb d_Mod_best_44 (by decide) ?_
          refine W.lcmp hx hb d_Mod_best_45 ?_
          refine lv_if_le (tgt := 138) hx hb d_Mod_best_46 (by decide) (fun h46 => ?_) (fun h46 => ?_)
          · -- 46 t
            have h46 : ¬ 0 < scF a hp w1 w2 P := Int64.not_lt.mpr ((lg_cmp_le _ _).mp h46)
            refine lv_iinc (v := nI (i + 1)) (k := 5) hx hb d_Mod_best_138 hl rfl (nI_inc i) (by decide) rfl (fun ls hl => ?_)
            have hl : lv_has ls 9 [(4, .int (nI (i + 1))), (5, .int (nI P)), (0, .ref (ad 74)), (1, .int w1), (2, .int w2), (3, .int w3)] := hl
            refine lv_goto (tgt := 18) hx hb d_Mod_best_141 (by decide) ?_
            exact ih18 (i + 1) _ _ _ (by omega) (bsF_no hbs (fun q => by rw [ei, nI_clamp (by omega), hcn] at q; first | exact h46 q.1 | exact h132 q.2)) (by omega) (lv_sub hl [2, 3, 4, 5, 0] rfl) hW hS
          · -- 46 f
            have h46 : 0 < scF a hp w1 w2 P := Int64.not_le.mp (fun q => h46 ((lg_cmp_le _ _).mpr q))
            refine lv_iconst (v := 0) hx hb d_Mod_best_49 (by decide) ?_
            refine lv_istore hx hb d_Mod_best_50 hl (by decide) rfl (fun ls hl => ?_)
            have hl : lv_has ls 9 [(6, .int 0), (5, .int (nI P)), (0, .ref (ad 74)), (1, .int w1), (2, .int w2), (3, .int w3), (4, .int (nI i))] := hl
            refine lv_iconst (v := 0) hx hb d_Mod_best_52 (by decide) ?_
            refine lv_istore hx hb d_Mod_best_53 hl (by decide) rfl (fun ls hl => ?_)
            have hl : lv_has ls 9 [(7, .int 0), (6, .int 0), (5, .int (nI P)), (0, .ref (ad 74)), (1, .int w1), (2, .int w2), (3, .int w3), (4, .int (nI i))] := hl
            have lp55 : ∀ (fuel : Nat) (j : Nat) (ls : Array Slot) (H : Heap) (locs : List Loc), (j ≤ ng) → ng - j < fuel → lv_has ls 9 [(0, .ref (ad 74)), (1, .int w1), (2, .int w2), (3, .int w3), (4, .int (nI i)), (5, .int (nI P)), (6, .int (nI (plF a hp w1 w2 P j))), (7, .int (nI j))] → gW g A ad np u (a, x', o') H → va_S A s.heap H locs → W p l e R s m args below meth c H locs 0 0 Q (F0 m 55 ls []) := by
              intro fuel
              induction fuel with
              | zero => intro j ls H locs _ hfu; exact absurd hfu (Nat.not_lt_zero _)
              | succ fuel ih55 =>
                intro j ls H locs hj hfu hl hW hS
                refine lv_iload hx hb d_Mod_best_55 (lv_at hl 7 rfl) ?_
                refine lv_aload_n hx hb d_Mod_best_57 rfl (lv_at hl 0 rfl) ?_
                refine gf_Mod_114 (z := nI ng) X hW  (gv_2_0_25 _) rfl hng d_Mod_best_58 ?_
                refine lv_icmp_ge (tgt := 129) hx hb d_Mod_best_61 (by decide) (fun h61 => ?_) (fun h61 => ?_)
                · -- 61 t
                  have h61 : ng ≤ j := (nI_leI (a := ng) (b := j) (by omega) (by omega)).mp h61
                  obtain rfl : j = ng := by omega
                  refine lv_iload hx hb d_Mod_best_129 (lv_at hl 6 rfl) ?_
                  refine lv_iload_n hx hb d_Mod_best_131 rfl (lv_at hl 3 rfl) ?_
                  refine lv_icmp_ne (tgt := 138) hx hb d_Mod_best_132 (by decide) (fun h132 => ?_) (fun h132 => ?_)
                  · -- 132 t
                    refine lv_iinc (v := nI (i + 1)) (k := 4) hx hb d_Mod_best_138 hl rfl (nI_inc i) (by decide) rfl (fun ls hl => ?_)
                    have hl : lv_has ls 9 [(4, .int (nI (i + 1))), (0, .ref (ad 74)), (1, .int w1), (2, .int w2), (3, .int w3), (5, .int (nI P)), (6, .int (nI (plF a hp w1 w2 P j))), (7, .int (nI j))] := hl
                    refine lv_goto (tgt := 18) hx hb d_Mod_best_141 (by decide) ?_
                    exact ih18 (i + 1) _ _ _ (by omega) (bsF_no hbs (fun q => by rw [ei, nI_clamp (by omega), hcn] at q; first | exact h46 q.1 | exact h132 q.2)) (by omega) (lv_sub hl [1, 2, 3, 4, 0] rfl) hW hS
                  · -- 132 f
                    refine lv_iload hx hb d_Mod_best_135 (lv_at hl 5 rfl) ?_
                    refine hret (nI P) (u, (a, x', o')) _ _ _ _ ?_ hW hS d_Mod_best_137
                    refine ⟨?_, _, _, rfl⟩
                    have h9 := bsF_hit hbs (by rw [ei, nI_clamp (by omega), hcn]; exact ⟨h46, h132⟩) (by rw [ei]; exact nI_neg (by omega) (by decide)) (j - (i + 1))
                    rw [show i + 1 + (j - (i + 1)) = j by omega, ei] at h9
                    unfold rBs
                    rw [if_neg hon, cn_of hhp (by omega), hcn, h9]
                · -- 61 f
                  have h61 : j < ng := Nat.lt_of_not_le fun q => h61 ((nI_leI (a := ng) (b := j) (by omega) (by omega)).mpr q)
                  obtain ⟨q8, hq8, ej⟩ := hd.1 j (by omega)
                  have hpl := plF_le (a := a) (hp := hp) (v := w1) (w := w2) (P := P) j
                  refine lv_aload_n hx hb d_Mod_best_64 rfl (lv_at hl 0 rfl) ?_
                  refine lv_aload_n hx hb d_Mod_best_65 rfl (lv_at hl 0 rfl) ?_
                  refine gf_Mod_53 X hW  d_Mod_best_66 ?_
                  refine lv_iload hx hb d_Mod_best_69 (lv_at hl 7 rfl) ?_
                  refine gy_ia (z := nI q8) (q := (2, 15, j)) hx hb hK hW (by omega) rfl (show vp_in _ 32 from vp_in_nI (by omega) (by decide)) (gv_2_15 (by omega)) ((gi_2_15 _).trans (by rw [nI_clamp (by omega)])) ej d_Mod_best_71 ?_
                  refine lv_iload_n hx hb d_Mod_best_72 rfl (lv_at hl 1 rfl) ?_
                  refine lv_iload_n hx hb d_Mod_best_73 rfl (lv_at hl 2 rfl) ?_
                  refine gc_lV (As := [.int (nI q8), .int w1, .int w2]) (b := ad 74) (rest := []) X cw_Mod_187 (C_Mod_score l (u := u) (a := a) (x := x') (o := o') (nm := nm) (hp := hp) (P := q8) (w1 := w1) (w2 := w2) hw hng hd hon hq8 (hrk _ hq8)) hW hS (gW_recv (ci := 7) (fs := gf7 ad) hK hW (by omega) (fun σ τ => ge_7 rfl σ τ) (r := (R_Mod, F_Mod, 37)) rfl) ⟨Nat.le_trans (Nat.le_of_ble_eq_true rfl) hR.1, Nat.le_trans (Nat.le_of_ble_eq_true rfl) hR.2⟩ rfl hl.1 rfl (Nat.le_of_ble_eq_true rfl) d_Mod_best_74 ⟨Nat.zero_le _, Nat.zero_le _⟩ (fun r t H locs hp hW hS => ?_)
                  obtain ⟨rfl, rfl⟩ := hp
                  have hW : gW g A ad np u (a, x', o') H := hW
                  refine lv_lconst (v := 0) hx hb d_Mod_best_77 (by decide) ?_
                  refine W.lcmp hx hb d_Mod_best_78 ?_
                  refine lv_if_le (tgt := 86) hx hb d_Mod_best_79 (by decide) (fun h79 => ?_) (fun h79 => ?_)
                  · -- 79 t
                    have hs9 : ¬ 0 < scF a hp w1 w2 q8 := Int64.not_lt.mpr ((lg_cmp_le _ _).mp h79)
                    refine lv_iconst (v := 0) hx hb d_Mod_best_86 (by decide) ?_
                    refine lv_istore hx hb d_Mod_best_87 hl (by decide) rfl (fun ls hl => ?_)
                    have hl : lv_has ls 9 [(8, .int 0), (0, .ref (ad 74)), (1, .int w1), (2, .int w2), (3, .int w3), (4, .int (nI i)), (5, .int (nI P)), (6, .int (nI (plF a hp w1 w2 P j))), (7, .int (nI j))] := hl
                    refine lv_iload hx hb d_Mod_best_89 (lv_at hl 0 rfl) ?_
                    refine lv_if_eq (tgt := 119) hx hb d_Mod_best_91 (by decide) (fun h91 => ?_) (fun h91 => ?_)
                    · -- 91 t
                      refine lv_iload hx hb d_Mod_best_119 (lv_at hl 7 rfl) ?_
                      refine lv_istore hx hb d_Mod_best_121 hl (by decide) rfl (fun ls hl => ?_)
                      have hl : lv_has ls 9 [(6, .int (nI (plF a hp w1 w2 P j))), (8, .int 0), (0, .ref (ad 74)), (1, .int w1), (2, .int w2), (3, .int w3), (4, .int (nI i)), (5, .int (nI P)), (7, .int (nI j))] := hl
                      refine lv_iinc (v := nI (j + 1)) (k := 8) hx hb d_Mod_best_123 hl rfl (nI_inc j) (by decide) rfl (fun ls hl => ?_)
                      have hl : lv_has ls 9 [(7, .int (nI (j + 1))), (6, .int (nI (plF a hp w1 w2 P j))), (8, .int 0), (0, .ref (ad 74)), (1, .int w1), (2, .int w2), (3, .int w3), (4, .int (nI i)), (5, .int (nI P))] := hl
                      refine lv_goto (tgt := 55) hx hb d_Mod_best_126 (by decide) ?_
                      have e6 : plF a hp w1 w2 P (j + 1) = plF a hp w1 w2 P j := if_neg (fun q => by rw [ej, nI_clamp (by omega)] at q; first | exact hs9 q.1 | (have := q.2; rw [h109] at this; cases this))
                      exact ih55 (j + 1) _ _ _ (by omega) (by omega) (by rw [e6]; exact (lv_sub hl [3, 4, 5, 6, 7, 8, 1, 0] rfl)) hW hS
                    · exact absurd h91 (by decide)
                  · -- 79 f
                    have hs9 : 0 < scF a hp w1 w2 q8 := Int64.not_le.mp (fun q => h79 ((lg_cmp_le _ _).mpr q))
                    refine lv_iconst (v := 1) hx hb d_Mod_best_82 (by decide) ?_
                    refine lv_goto (tgt := 87) hx hb d_Mod_best_83 (by decide) ?_
                    refine lv_istore hx hb d_Mod_best_87 hl (by decide) rfl (fun ls hl => ?_)
                    have hl : lv_has ls 9 [(8, .int 1), (0, .ref (ad 74)), (1, .int w1), (2, .int w2), (3, .int w3), (4, .int (nI i)), (5, .int (nI P)), (6, .int (nI (plF a hp w1 w2 P j))), (7, .int (nI j))] := hl
                    refine lv_iload hx hb d_Mod_best_89 (lv_at hl 0 rfl) ?_
                    refine lv_if_eq (tgt := 119) hx hb d_Mod_best_91 (by decide) (fun h91 => ?_) (fun h91 => ?_)
                    · exact absurd h91 (by decide)
                    · -- 91 f
                      refine lv_aload_n hx hb d_Mod_best_94 rfl (lv_at hl 1 rfl) ?_
                      refine lv_aload_n hx hb d_Mod_best_95 rfl (lv_at hl 1 rfl) ?_
                      refine gf_Mod_53 X hW  d_Mod_best_96 ?_
                      refine lv_iload hx hb d_Mod_best_99 (lv_at hl 8 rfl) ?_
                      refine gy_ia (z := nI q8) (q := (2, 15, j)) hx hb hK hW (by omega) rfl (show vp_in _ 32 from vp_in_nI (by omega) (by decide)) (gv_2_15 (by omega)) ((gi_2_15 _).trans (by rw [nI_clamp (by omega)])) ej d_Mod_best_101 ?_
                      refine lv_iload hx hb d_Mod_best_102 (lv_at hl 6 rfl) ?_
                      refine lv_iload_n hx hb d_Mod_best_104 rfl (lv_at hl 2 rfl) ?_
                      refine lv_iload_n hx hb d_Mod_best_105 rfl (lv_at hl 3 rfl) ?_
                      refine gc_iV (As := [.int (nI q8), .int (nI P), .int w1, .int w2]) (b := ad 74) (rest := []) X cw_Mod_191 (C_Mod_comesBefore l (u := u) (a := a) (x := x') (o := o') (nm := nm) (hp := hp) (P := q8) (Q1 := P) (w1 := w1) (w2 := w2) hw hng hd hon hrk hq8 hP) hW hS (gW_recv (ci := 7) (fs := gf7 ad) hK hW (by omega) (fun σ τ => ge_7 rfl σ τ) (r := (R_Mod, F_Mod, 37)) rfl) ⟨Nat.le_trans (Nat.le_of_ble_eq_true rfl) hR.1, Nat.le_trans (Nat.le_of_ble_eq_true rfl) hR.2⟩ rfl hl.1 rfl (Nat.le_of_ble_eq_true rfl) d_Mod_best_106 ⟨Nat.zero_le _, Nat.zero_le _⟩ (fun r t H locs hp hW hS => ?_)
                      obtain ⟨rfl, rfl⟩ := hp
                      have hW : gW g A ad np u (a, x', o') H := hW
                      refine lv_if_eq (tgt := 119) hx hb d_Mod_best_109 (by decide) (fun h109 => ?_) (fun h109 => ?_)
                      · -- 109 t
                        have h109 : (bfF a hp w1 w2 q8 P) = false := bI_0 h109
                        refine lv_iload hx hb d_Mod_best_119 (lv_at hl 7 rfl) ?_
                        refine lv_istore hx hb d_Mod_best_121 hl (by decide) rfl (fun ls hl => ?_)
                        have hl : lv_has ls 9 [(6, .int (nI (plF a hp w1 w2 P j))), (8, .int 1), (0, .ref (ad 74)), (1, .int w1), (2, .int w2), (3, .int w3), (4, .int (nI i)), (5, .int (nI P)), (7, .int (nI j))] := hl
                        refine lv_iinc (v := nI (j + 1)) (k := 8) hx hb d_Mod_best_123 hl rfl (nI_inc j) (by decide) rfl (fun ls hl => ?_)
                        have hl : lv_has ls 9 [(7, .int (nI (j + 1))), (6, .int (nI (plF a hp w1 w2 P j))), (8, .int 1), (0, .ref (ad 74)), (1, .int w1), (2, .int w2), (3, .int w3), (4, .int (nI i)), (5, .int (nI P))] := hl
                        refine lv_goto (tgt := 55) hx hb d_Mod_best_126 (by decide) ?_
                        have e6 : plF a hp w1 w2 P (j + 1) = plF a hp w1 w2 P j := if_neg (fun q => by rw [ej, nI_clamp (by omega)] at q; first | exact hs9 q.1 | (have := q.2; rw [h109] at this; cases this))
                        exact ih55 (j + 1) _ _ _ (by omega) (by omega) (by rw [e6]; exact (lv_sub hl [3, 4, 5, 6, 7, 8, 1, 0] rfl)) hW hS
                      · -- 109 f
                        have h109 : (bfF a hp w1 w2 q8 P) = true := bI_n0 h109
                        refine lv_iload hx hb d_Mod_best_112 (lv_at hl 7 rfl) ?_
                        refine lv_iconst (v := 1) hx hb d_Mod_best_114 (by decide) ?_
                        refine lv_iadd hx hb d_Mod_best_115 ?_
                        rw [show (nI (plF a hp w1 w2 P j)) + 1 = nI (plF a hp w1 w2 P j + 1) from nI_1 _]
                        refine lv_goto (tgt := 121) hx hb d_Mod_best_116 (by decide) ?_
                        refine lv_istore hx hb d_Mod_best_121 hl (by decide) rfl (fun ls hl => ?_)
                        have hl : lv_has ls 9 [(6, .int (nI (plF a hp w1 w2 P j + 1))), (8, .int 1), (0, .ref (ad 74)), (1, .int w1), (2, .int w2), (3, .int w3), (4, .int (nI i)), (5, .int (nI P)), (7, .int (nI j))] := hl
                        refine lv_iinc (v := nI (j + 1)) (k := 8) hx hb d_Mod_best_123 hl rfl (nI_inc j) (by decide) rfl (fun ls hl => ?_)
                        have hl : lv_has ls 9 [(7, .int (nI (j + 1))), (6, .int (nI (plF a hp w1 w2 P j + 1))), (8, .int 1), (0, .ref (ad 74)), (1, .int w1), (2, .int w2), (3, .int w3), (4, .int (nI i)), (5, .int (nI P))] := hl
                        refine lv_goto (tgt := 55) hx hb d_Mod_best_126 (by decide) ?_
                        have e6 : plF a hp w1 w2 P (j + 1) = plF a hp w1 w2 P j + 1 := if_pos ⟨by rw [ej, nI_clamp (by omega)]; exact hs9, by rw [ej, nI_clamp (by omega)]; exact h109⟩
                        exact ih55 (j + 1) _ _ _ (by omega) (by omega) (by rw [e6]; exact (lv_sub hl [3, 4, 5, 6, 7, 8, 1, 0] rfl)) hW hS
            exact lp55 _ 0 _ _ _ (Nat.zero_le _) (Nat.lt_succ_self _) (lv_sub hl [3, 4, 5, 6, 7, 2, 1, 0] rfl) hW hS
    exact lp18 _ 0 _ _ _ (Nat.zero_le _) rfl (Nat.lt_succ_self _) (lv_sub hl [1, 2, 3, 4, 0] rfl) hW hS
  · -- 4 f
    refine lv_iconst (v := (-1)) hx hb d_Mod_best_7 (by decide) ?_
    refine hret (-1) (u, (a, x, o)) _ _ _ _ ?_ hW hS d_Mod_best_8
    exact ⟨by unfold rBs; rw [if_pos h4], _, _, rfl⟩
theorem C_Mod_best (l : Launch) {g : gG} {A : Nat → Prop} {ad : Nat → Nat} {np : Nat} {u : gS} {a x : gA} {o : gL} {nm ng hp : Nat} {w1 w2 w3 : Int32} (hw : WFw nm a) (hng : a 0 25 = nI ng) (hd : dst (a 15) ng nm) (hhp : a 0 15 = nI hp) (hp4 : hp ≤ 4) : CtI l y_Mod_best b_Mod_best 9 .int 5 [.ref (ad 74), .int w1, .int w2, .int w3] g A ad np u (a, x, o) (fun r t => r = rBs a w1 w2 w3 ∧ ∃ x' o', t = (u, (a, x', o'))) := mkI (by decide) rfl (Nat.le_of_ble_eq_true rfl) (fun _ _ _ => rfl) (B_Mod_best l hw hng hd hhp hp4)

