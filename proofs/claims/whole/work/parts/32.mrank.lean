/-! specs_mrank -/
set_option maxHeartbeats 400000 in
set_option maxRecDepth 20000 in
theorem B_Mod_sameBody (l : Launch) {g : gG} {A : Nat → Prop} {ad : Nat → Nat} {np : Nat} {u : gS} {a x : gA} {o : gL} {P Q1 w1 w2 : Nat} (hP : P < 32) (hQ : Q1 < 32) (hw1 : a 5 P = nI w1) (hw18 : w1 ≤ 8) (hw2 : a 5 Q1 = nI w2) (hw28 : w2 ≤ 8) : BdI l b_Mod_sameBody 5 R_Mod 0 [.ref (ad 74), .int (nI P), .int (nI Q1)] g A ad np u (a, x, o) (fun r t => t = (u, (a, x, o)) ∧ r = bI (sBd a P Q1)) := by
  intro p e R s m args below meth c Q ls X hW hS hR hl hret
  have hx := X.1.1
  have hb := X.1.2.1
  have hml := X.1.2.2.1
  have hown := X.1.2.2.2.1
  have hts := X.1.2.2.2.2
  have hK := X.2.1
  have hl : lv_has ls 5 [(0, .ref (ad 74)), (1, .int (nI P)), (2, .int (nI Q1))] := hl
  have esb : sBd a P Q1 = (decide (w1 = w2) && pSm (fun i => a 4 (8 * P + i)) (fun i => a 4 (8 * Q1 + i)) w1) := by unfold sBd; rw [hw1, hw2, nI_clamp (by omega), nI_clamp (by omega)]
  refine lv_aload_n hx hb d_Mod_sameBody_0 rfl (lv_at hl 0 rfl) ?_
  refine gf_Mod_22 X hW  d_Mod_sameBody_1 ?_
  refine lv_iload_n hx hb d_Mod_sameBody_4 rfl (lv_at hl 1 rfl) ?_
  refine gy_ia (z := nI w1) (q := (2, 5, P)) hx hb hK hW (by omega) rfl (show vp_in _ 32 from vp_in_nI (by omega) (by decide)) (gv_2_5 (by omega)) ((gi_2_5 _).trans (by rw [nI_clamp (by omega)])) hw1 d_Mod_sameBody_5 ?_
  refine lv_aload_n hx hb d_Mod_sameBody_6 rfl (lv_at hl 0 rfl) ?_
  refine gf_Mod_22 X hW  d_Mod_sameBody_7 ?_
  refine lv_iload_n hx hb d_Mod_sameBody_10 rfl (lv_at hl 2 rfl) ?_
  refine gy_ia (z := nI w2) (q := (2, 5, Q1)) hx hb hK hW (by omega) rfl (show vp_in _ 32 from vp_in_nI (by omega) (by decide)) (gv_2_5 (by omega)) ((gi_2_5 _).trans (by rw [nI_clamp (by omega)])) hw2 d_Mod_sameBody_11 ?_
  refine lv_icmp_ne (tgt := 19) hx hb d_Mod_sameBody_12 (by decide) (fun h12 => ?_) (fun h12 => ?_)
  · -- 12 t
    have h12 : ¬ w1 = w2 := fun q => h12 ((nI_eq (a := w1) (b := w2) (by omega) (by omega)).mpr q)
    refine lv_iconst (v := 0) hx hb d_Mod_sameBody_19 (by decide) ?_
    refine lv_istore_n hx hb d_Mod_sameBody_20 rfl hl (by decide) rfl (fun ls hl => ?_)
    have hl : lv_has ls 5 [(3, .int 0), (0, .ref (ad 74)), (1, .int (nI P)), (2, .int (nI Q1))] := hl
    refine lv_iconst (v := 0) hx hb d_Mod_sameBody_21 (by decide) ?_
    refine lv_istore hx hb d_Mod_sameBody_22 hl (by decide) rfl (fun ls hl => ?_)
    have hl : lv_has ls 5 [(4, .int 0), (3, .int 0), (0, .ref (ad 74)), (1, .int (nI P)), (2, .int (nI Q1))] := hl
    have lp24 : ∀ (fuel : Nat) (i : Nat) (ls : Array Slot) (H : Heap) (locs : List Loc), (i ≤ w1) → w1 - i < fuel → lv_has ls 5 [(0, .ref (ad 74)), (1, .int (nI P)), (2, .int (nI Q1)), (3, .int (bI (decide (w1 = w2) && pSm (fun i => a 4 (8 * P + i)) (fun i => a 4 (8 * Q1 + i)) i))), (4, .int (nI i))] → gW g A ad np u (a, x, o) H → va_S A s.heap H locs → W p l e R s m args below meth c H locs 0 0 Q (F0 m 24 ls []) := by
      intro fuel
      induction fuel with
      | zero => intro i ls H locs _ hfu; exact absurd hfu (Nat.not_lt_zero _)
      | succ fuel ih24 =>
        intro i ls H locs hi hfu hl hW hS
        refine lv_iload hx hb d_Mod_sameBody_24 (lv_at hl 4 rfl) ?_
        refine lv_aload_n hx hb d_Mod_sameBody_26 rfl (lv_at hl 0 rfl) ?_
        refine gf_Mod_22 X hW  d_Mod_sameBody_27 ?_
        refine lv_iload_n hx hb d_Mod_sameBody_30 rfl (lv_at hl 1 rfl) ?_
        refine gy_ia (z := nI w1) (q := (2, 5, P)) hx hb hK hW (by omega) rfl (show vp_in _ 32 from vp_in_nI (by omega) (by decide)) (gv_2_5 (by omega)) ((gi_2_5 _).trans (by rw [nI_clamp (by omega)])) hw1 d_Mod_sameBody_31 ?_
        refine lv_icmp_ge (tgt := 78) hx hb d_Mod_sameBody_32 (by decide) (fun h32 => ?_) (fun h32 => ?_)
        · -- 32 t
          have h32 : w1 ≤ i := (nI_leI (a := w1) (b := i) (by omega) (by omega)).mp h32
          refine lv_iload_n hx hb d_Mod_sameBody_78 rfl (lv_at hl 3 rfl) ?_
          refine hret (bI (decide (w1 = w2) && pSm (fun i => a 4 (8 * P + i)) (fun i => a 4 (8 * Q1 + i)) i)) (u, (a, x, o)) _ _ _ _ ?_ hW hS d_Mod_sameBody_79
          refine ⟨rfl, ?_⟩
          rw [esb]
          first
            | (rw [show w1 = i by omega]; done)
            | (have h9 : (decide (w1 = w2) && pSm (fun i => a 4 (8 * P + i)) (fun i => a 4 (8 * Q1 + i)) w1) = false := by
                 rw [Bool.and_eq_false_iff] at h36 ⊢
                 refine h36.imp id (fun q => ?_)
                 have q2 := pSm_down q (w1 - i)
                 rw [show i + (w1 - i) = w1 by omega] at q2
                 exact q2
               rw [h9, h36])
        · -- 32 f
          have h32 : i < w1 := Nat.lt_of_not_le fun q => h32 ((nI_leI (a := w1) (b := i) (by omega) (by omega)).mpr q)
          refine lv_iload_n hx hb d_Mod_sameBody_35 rfl (lv_at hl 3 rfl) ?_
          refine lv_if_eq (tgt := 78) hx hb d_Mod_sameBody_36 (by decide) (fun h36 => ?_) (fun h36 => ?_)
          · -- 36 t
            have h36 : (decide (w1 = w2) && pSm (fun i => a 4 (8 * P + i)) (fun i => a 4 (8 * Q1 + i)) i) = false := bI_0 h36
            refine lv_iload_n hx hb d_Mod_sameBody_78 rfl (lv_at hl 3 rfl) ?_
            refine hret (bI (decide (w1 = w2) && pSm (fun i => a 4 (8 * P + i)) (fun i => a 4 (8 * Q1 + i)) i)) (u, (a, x, o)) _ _ _ _ ?_ hW hS d_Mod_sameBody_79
            refine ⟨rfl, ?_⟩
            rw [esb]
            first
              | (rw [show w1 = i by omega]; done)
              | (have h9 : (decide (w1 = w2) && pSm (fun i => a 4 (8 * P + i)) (fun i => a 4 (8 * Q1 + i)) w1) = false := by
                   rw [Bool.and_eq_false_iff] at h36 ⊢
                   refine h36.imp id (fun q => ?_)
                   have q2 := pSm_down q (w1 - i)
                   rw [show i + (w1 - i) = w1 by omega] at q2
                   exact q2
                 rw [h9, h36])
          · -- 36 f
            have h36 : (decide (w1 = w2) && pSm (fun i => a 4 (8 * P + i)) (fun i => a 4 (8 * Q1 + i)) i) = true := bI_n0 h36
            refine lv_aload_n hx hb d_Mod_sameBody_39 rfl (lv_at hl 0 rfl) ?_
            refine gf_Mod_19 X hW  d_Mod_sameBody_40 ?_
            refine lv_bipush (v := 8) hx hb d_Mod_sameBody_43 (by decide) ?_
            refine lv_iload_n hx hb d_Mod_sameBody_45 rfl (lv_at hl 1 rfl) ?_
            refine lv_imul hx hb d_Mod_sameBody_46 ?_
            rw [show 8 * (nI P) = nI (8 * P) from pk_mul 8 P]
            refine lv_iload hx hb d_Mod_sameBody_47 (lv_at hl 4 rfl) ?_
            refine lv_iadd hx hb d_Mod_sameBody_49 ?_
            rw [show (nI (8 * P)) + (nI i) = nI (8 * P + i) from nI_add _ _]
            refine gy_ia (z := a 4 (8 * P + i)) (q := (2, 4, (8 * P + i))) hx hb hK hW (by omega) rfl (show vp_in _ 256 from vp_in_nI (by omega) (by decide)) (gv_2_4 (by omega)) ((gi_2_4 _).trans (by rw [nI_clamp (by omega)])) rfl d_Mod_sameBody_50 ?_
            refine lv_aload_n hx hb d_Mod_sameBody_51 rfl (lv_at hl 0 rfl) ?_
            refine gf_Mod_19 X hW  d_Mod_sameBody_52 ?_
            refine lv_bipush (v := 8) hx hb d_Mod_sameBody_55 (by decide) ?_
            refine lv_iload_n hx hb d_Mod_sameBody_57 rfl (lv_at hl 2 rfl) ?_
            refine lv_imul hx hb d_Mod_sameBody_58 ?_
            rw [show 8 * (nI Q1) = nI (8 * Q1) from pk_mul 8 Q1]
            refine lv_iload hx hb d_Mod_sameBody_59 (lv_at hl 4 rfl) ?_
            refine lv_iadd hx hb d_Mod_sameBody_61 ?_
            rw [show (nI (8 * Q1)) + (nI i) = nI (8 * Q1 + i) from nI_add _ _]
            refine gy_ia (z := a 4 (8 * Q1 + i)) (q := (2, 4, (8 * Q1 + i))) hx hb hK hW (by omega) rfl (show vp_in _ 256 from vp_in_nI (by omega) (by decide)) (gv_2_4 (by omega)) ((gi_2_4 _).trans (by rw [nI_clamp (by omega)])) rfl d_Mod_sameBody_62 ?_
            refine lv_icmp_ne (tgt := 70) hx hb d_Mod_sameBody_63 (by decide) (fun h63 => ?_) (fun h63 => ?_)
            · -- 63 t
              refine lv_iconst (v := 0) hx hb d_Mod_sameBody_70 (by decide) ?_
              refine lv_istore_n hx hb d_Mod_sameBody_71 rfl hl (by decide) rfl (fun ls hl => ?_)
              have hl : lv_has ls 5 [(3, .int 0), (0, .ref (ad 74)), (1, .int (nI P)), (2, .int (nI Q1)), (4, .int (nI i))] := hl
              refine lv_iinc (v := nI (i + 1)) (k := 4) hx hb d_Mod_sameBody_72 hl rfl (nI_inc i) (by decide) rfl (fun ls hl => ?_)
              have hl : lv_has ls 5 [(4, .int (nI (i + 1))), (3, .int 0), (0, .ref (ad 74)), (1, .int (nI P)), (2, .int (nI Q1))] := hl
              refine lv_goto (tgt := 24) hx hb d_Mod_sameBody_75 (by decide) ?_
              exact ih24 (i + 1) _ _ _ (by omega) (by omega) (by rw [show (decide (w1 = w2) && pSm (fun i => a 4 (8 * P + i)) (fun i => a 4 (8 * Q1 + i)) (i + 1)) = false by (rw [Bool.and_eq_true] at h36; rw [h36.1]; show (true && (_ && _)) = _; rw [h36.2, decide_eq_false h63]; rfl)]; exact (lv_sub hl [2, 3, 4, 1, 0] rfl)) hW hS
            · -- 63 f
              refine lv_iconst (v := 1) hx hb d_Mod_sameBody_66 (by decide) ?_
              refine lv_goto (tgt := 71) hx hb d_Mod_sameBody_67 (by decide) ?_
              refine lv_istore_n hx hb d_Mod_sameBody_71 rfl hl (by decide) rfl (fun ls hl => ?_)
              have hl : lv_has ls 5 [(3, .int 1), (0, .ref (ad 74)), (1, .int (nI P)), (2, .int (nI Q1)), (4, .int (nI i))] := hl
              refine lv_iinc (v := nI (i + 1)) (k := 4) hx hb d_Mod_sameBody_72 hl rfl (nI_inc i) (by decide) rfl (fun ls hl => ?_)
              have hl : lv_has ls 5 [(4, .int (nI (i + 1))), (3, .int 1), (0, .ref (ad 74)), (1, .int (nI P)), (2, .int (nI Q1))] := hl
              refine lv_goto (tgt := 24) hx hb d_Mod_sameBody_75 (by decide) ?_
              exact ih24 (i + 1) _ _ _ (by omega) (by omega) (by rw [show (decide (w1 = w2) && pSm (fun i => a 4 (8 * P + i)) (fun i => a 4 (8 * Q1 + i)) (i + 1)) = true by (rw [Bool.and_eq_true] at h36; rw [h36.1]; show (true && (_ && _)) = _; rw [h36.2, decide_eq_true h63]; rfl)]; exact (lv_sub hl [2, 3, 4, 1, 0] rfl)) hW hS
    exact lp24 _ 0 _ _ _ (Nat.zero_le _) (Nat.lt_succ_self _) (by rw [show (decide (w1 = w2) && pSm (fun i => a 4 (8 * P + i)) (fun i => a 4 (8 * Q1 + i)) 0) = false by rw [decide_eq_false h12]; rfl]; exact (lv_sub hl [2, 3, 4, 1, 0] rfl)) hW hS
  · -- 12 f
    have h12 : w1 = w2 := (nI_eq (a := w1) (b := w2) (by omega) (by omega)).mp h12
    refine lv_iconst (v := 1) hx hb d_Mod_sameBody_15 (by decide) ?_
    refine lv_goto (tgt := 20) hx hb d_Mod_sameBody_16 (by decide) ?_
    refine lv_istore_n hx hb d_Mod_sameBody_20 rfl hl (by decide) rfl (fun ls hl => ?_)
    have hl : lv_has ls 5 [(3, .int 1), (0, .ref (ad 74)), (1, .int (nI P)), (2, .int (nI Q1))] := hl
    refine lv_iconst (v := 0) hx hb d_Mod_sameBody_21 (by decide) ?_
    refine lv_istore hx hb d_Mod_sameBody_22 hl (by decide) rfl (fun ls hl => ?_)
    have hl : lv_has ls 5 [(4, .int 0), (3, .int 1), (0, .ref (ad 74)), (1, .int (nI P)), (2, .int (nI Q1))] := hl
    have lp24 : ∀ (fuel : Nat) (i : Nat) (ls : Array Slot) (H : Heap) (locs : List Loc), (i ≤ w1) → w1 - i < fuel → lv_has ls 5 [(0, .ref (ad 74)), (1, .int (nI P)), (2, .int (nI Q1)), (3, .int (bI (decide (w1 = w2) && pSm (fun i => a 4 (8 * P + i)) (fun i => a 4 (8 * Q1 + i)) i))), (4, .int (nI i))] → gW g A ad np u (a, x, o) H → va_S A s.heap H locs → W p l e R s m args below meth c H locs 0 0 Q (F0 m 24 ls []) := by
      intro fuel
      induction fuel with
      | zero => intro i ls H locs _ hfu; exact absurd hfu (Nat.not_lt_zero _)
      | succ fuel ih24 =>
        intro i ls H locs hi hfu hl hW hS
        refine lv_iload hx hb d_Mod_sameBody_24 (lv_at hl 4 rfl) ?_
        refine lv_aload_n hx hb d_Mod_sameBody_26 rfl (lv_at hl 0 rfl) ?_
        refine gf_Mod_22 X hW  d_Mod_sameBody_27 ?_
        refine lv_iload_n hx hb d_Mod_sameBody_30 rfl (lv_at hl 1 rfl) ?_
        refine gy_ia (z := nI w1) (q := (2, 5, P)) hx hb hK hW (by omega) rfl (show vp_in _ 32 from vp_in_nI (by omega) (by decide)) (gv_2_5 (by omega)) ((gi_2_5 _).trans (by rw [nI_clamp (by omega)])) hw1 d_Mod_sameBody_31 ?_
        refine lv_icmp_ge (tgt := 78) hx hb d_Mod_sameBody_32 (by decide) (fun h32 => ?_) (fun h32 => ?_)
        · -- 32 t
          have h32 : w1 ≤ i := (nI_leI (a := w1) (b := i) (by omega) (by omega)).mp h32
          refine lv_iload_n hx hb d_Mod_sameBody_78 rfl (lv_at hl 3 rfl) ?_
          refine hret (bI (decide (w1 = w2) && pSm (fun i => a 4 (8 * P + i)) (fun i => a 4 (8 * Q1 + i)) i)) (u, (a, x, o)) _ _ _ _ ?_ hW hS d_Mod_sameBody_79
          refine ⟨rfl, ?_⟩
          rw [esb]
          first
            | (rw [show w1 = i by omega]; done)
            | (have h9 : (decide (w1 = w2) && pSm (fun i => a 4 (8 * P + i)) (fun i => a 4 (8 * Q1 + i)) w1) = false := by
                 rw [Bool.and_eq_false_iff] at h36 ⊢
                 refine h36.imp id (fun q => ?_)
                 have q2 := pSm_down q (w1 - i)
                 rw [show i + (w1 - i) = w1 by omega] at q2
                 exact q2
               rw [h9, h36])
        · -- 32 f
          have h32 : i < w1 := Nat.lt_of_not_le fun q => h32 ((nI_leI (a := w1) (b := i) (by omega) (by omega)).mpr q)
          refine lv_iload_n hx hb d_Mod_sameBody_35 rfl (lv_at hl 3 rfl) ?_
          refine lv_if_eq (tgt := 78) hx hb d_Mod_sameBody_36 (by decide) (fun h36 => ?_) (fun h36 => ?_)
          · -- 36 t
            have h36 : (decide (w1 = w2) && pSm (fun i => a 4 (8 * P + i)) (fun i => a 4 (8 * Q1 + i)) i) = false := bI_0 h36
            refine lv_iload_n hx hb d_Mod_sameBody_78 rfl (lv_at hl 3 rfl) ?_
            refine hret (bI (decide (w1 = w2) && pSm (fun i => a 4 (8 * P + i)) (fun i => a 4 (8 * Q1 + i)) i)) (u, (a, x, o)) _ _ _ _ ?_ hW hS d_Mod_sameBody_79
            refine ⟨rfl, ?_⟩
            rw [esb]
            first
              | (rw [show w1 = i by omega]; done)
              | (have h9 : (decide (w1 = w2) && pSm (fun i => a 4 (8 * P + i)) (fun i => a 4 (8 * Q1 + i)) w1) = false := by
                   rw [Bool.and_eq_false_iff] at h36 ⊢
                   refine h36.imp id (fun q => ?_)
                   have q2 := pSm_down q (w1 - i)
                   rw [show i + (w1 - i) = w1 by omega] at q2
                   exact q2
                 rw [h9, h36])
          · -- 36 f
            have h36 : (decide (w1 = w2) && pSm (fun i => a 4 (8 * P + i)) (fun i => a 4 (8 * Q1 + i)) i) = true := bI_n0 h36
            refine lv_aload_n hx hb d_Mod_sameBody_39 rfl (lv_at hl 0 rfl) ?_
            refine gf_Mod_19 X hW  d_Mod_sameBody_40 ?_
            refine lv_bipush (v := 8) hx hb d_Mod_sameBody_43 (by decide) ?_
            refine lv_iload_n hx hb d_Mod_sameBody_45 rfl (lv_at hl 1 rfl) ?_
            refine lv_imul hx hb d_Mod_sameBody_46 ?_
            rw [show 8 * (nI P) = nI (8 * P) from pk_mul 8 P]
            refine lv_iload hx hb d_Mod_sameBody_47 (lv_at hl 4 rfl) ?_
            refine lv_iadd hx hb d_Mod_sameBody_49 ?_
            rw [show (nI (8 * P)) + (nI i) = nI (8 * P + i) from nI_add _ _]
            refine gy_ia (z := a 4 (8 * P + i)) (q := (2, 4, (8 * P + i))) hx hb hK hW (by omega) rfl (show vp_in _ 256 from vp_in_nI (by omega) (by decide)) (gv_2_4 (by omega)) ((gi_2_4 _).trans (by rw [nI_clamp (by omega)])) rfl d_Mod_sameBody_50 ?_
            refine lv_aload_n hx hb d_Mod_sameBody_51 rfl (lv_at hl 0 rfl) ?_
            refine gf_Mod_19 X hW  d_Mod_sameBody_52 ?_
            refine lv_bipush (v := 8) hx hb d_Mod_sameBody_55 (by decide) ?_
            refine lv_iload_n hx hb d_Mod_sameBody_57 rfl (lv_at hl 2 rfl) ?_
            refine lv_imul hx hb d_Mod_sameBody_58 ?_
            rw [show 8 * (nI Q1) = nI (8 * Q1) from pk_mul 8 Q1]
            refine lv_iload hx hb d_Mod_sameBody_59 (lv_at hl 4 rfl) ?_
            refine lv_iadd hx hb d_Mod_sameBody_61 ?_
            rw [show (nI (8 * Q1)) + (nI i) = nI (8 * Q1 + i) from nI_add _ _]
            refine gy_ia (z := a 4 (8 * Q1 + i)) (q := (2, 4, (8 * Q1 + i))) hx hb hK hW (by omega) rfl (show vp_in _ 256 from vp_in_nI (by omega) (by decide)) (gv_2_4 (by omega)) ((gi_2_4 _).trans (by rw [nI_clamp (by omega)])) rfl d_Mod_sameBody_62 ?_
            refine lv_icmp_ne (tgt := 70) hx hb d_Mod_sameBody_63 (by decide) (fun h63 => ?_) (fun h63 => ?_)
            · -- 63 t
              refine lv_iconst (v := 0) hx hb d_Mod_sameBody_70 (by decide) ?_
              refine lv_istore_n hx hb d_Mod_sameBody_71 rfl hl (by decide) rfl (fun ls hl => ?_)
              have hl : lv_has ls 5 [(3, .int 0), (0, .ref (ad 74)), (1, .int (nI P)), (2, .int (nI Q1)), (4, .int (nI i))] := hl
              refine lv_iinc (v := nI (i + 1)) (k := 4) hx hb d_Mod_sameBody_72 hl rfl (nI_inc i) (by decide) rfl (fun ls hl => ?_)
              have hl : lv_has ls 5 [(4, .int (nI (i + 1))), (3, .int 0), (0, .ref (ad 74)), (1, .int (nI P)), (2, .int (nI Q1))] := hl
              refine lv_goto (tgt := 24) hx hb d_Mod_sameBody_75 (by decide) ?_
              exact ih24 (i + 1) _ _ _ (by omega) (by omega) (by rw [show (decide (w1 = w2) && pSm (fun i => a 4 (8 * P + i)) (fun i => a 4 (8 * Q1 + i)) (i + 1)) = false by (rw [Bool.and_eq_true] at h36; rw [h36.1]; show (true && (_ && _)) = _; rw [h36.2, decide_eq_false h63]; rfl)]; exact (lv_sub hl [2, 3, 4, 1, 0] rfl)) hW hS
            · -- 63 f
              refine lv_iconst (v := 1) hx hb d_Mod_sameBody_66 (by decide) ?_
              refine lv_goto (tgt := 71) hx hb d_Mod_sameBody_67 (by decide) ?_
              refine lv_istore_n hx hb d_Mod_sameBody_71 rfl hl (by decide) rfl (fun ls hl => ?_)
              have hl : lv_has ls 5 [(3, .int 1), (0, .ref (ad 74)), (1, .int (nI P)), (2, .int (nI Q1)), (4, .int (nI i))] := hl
              refine lv_iinc (v := nI (i + 1)) (k := 4) hx hb d_Mod_sameBody_72 hl rfl (nI_inc i) (by decide) rfl (fun ls hl => ?_)
              have hl : lv_has ls 5 [(4, .int (nI (i + 1))), (3, .int 1), (0, .ref (ad 74)), (1, .int (nI P)), (2, .int (nI Q1))] := hl
              refine lv_goto (tgt := 24) hx hb d_Mod_sameBody_75 (by decide) ?_
              exact ih24 (i + 1) _ _ _ (by omega) (by omega) (by rw [show (decide (w1 = w2) && pSm (fun i => a 4 (8 * P + i)) (fun i => a 4 (8 * Q1 + i)) (i + 1)) = true by (rw [Bool.and_eq_true] at h36; rw [h36.1]; show (true && (_ && _)) = _; rw [h36.2, decide_eq_true h63]; rfl)]; exact (lv_sub hl [2, 3, 4, 1, 0] rfl)) hW hS
    exact lp24 _ 0 _ _ _ (Nat.zero_le _) (Nat.lt_succ_self _) (by rw [show (decide (w1 = w2) && pSm (fun i => a 4 (8 * P + i)) (fun i => a 4 (8 * Q1 + i)) 0) = true by rw [decide_eq_true h12]; rfl]; exact (lv_sub hl [2, 3, 4, 1, 0] rfl)) hW hS
theorem C_Mod_sameBody (l : Launch) {g : gG} {A : Nat → Prop} {ad : Nat → Nat} {np : Nat} {u : gS} {a x : gA} {o : gL} {P Q1 w1 w2 : Nat} (hP : P < 32) (hQ : Q1 < 32) (hw1 : a 5 P = nI w1) (hw18 : w1 ≤ 8) (hw2 : a 5 Q1 = nI w2) (hw28 : w2 ≤ 8) : CtI l y_Mod_sameBody b_Mod_sameBody 5 .boolean 0 [.ref (ad 74), .int (nI P), .int (nI Q1)] g A ad np u (a, x, o) (fun r t => t = (u, (a, x, o)) ∧ r = bI (sBd a P Q1)) := mkI (by decide) rfl (Nat.le_of_ble_eq_true rfl) (fun r t h => h.2 ▸ bI_nar _) (B_Mod_sameBody l hP hQ hw1 hw18 hw2 hw28)

set_option maxHeartbeats 400000 in
set_option maxRecDepth 20000 in
theorem B_Mod_document (l : Launch) {g : gG} {A : Nat → Prop} {ad : Nat → Nat} {np : Nat} {u : gS} {a x : gA} {o : gL} {nm ng : Nat} {w1 : Int32} (hw : WFw nm a) (hng : a 0 25 = nI ng) (hd : dst (a 15) ng nm) : BdI l b_Mod_document 3 R_Mod 1 [.ref (ad 74), .int w1] g A ad np u (a, x, o) (fun r t => t = (u, (a, x, o)) ∧ r = rDc a w1) := by
  intro p e R s m args below meth c Q ls X hW hS hR hl hret
  have hx := X.1.1
  have hb := X.1.2.1
  have hml := X.1.2.2.1
  have hown := X.1.2.2.2.1
  have hts := X.1.2.2.2.2
  have hK := X.2.1
  have hl : lv_has ls 3 [(0, .ref (ad 74)), (1, .int w1)] := hl
  have hnp := hw.1
  have hng32 := dst_le hd hnp
  have hcn : cn a 25 = ng := cn_of hng (by omega)
  refine lv_aload_n hx hb d_Mod_document_0 rfl (lv_at hl 0 rfl) ?_
  refine gf_Mod_73 (z := a 0 13) X hW  (gv_2_0_13 _) rfl rfl d_Mod_document_1 ?_
  refine lv_if_eq (tgt := 15) hx hb d_Mod_document_4 (by decide) (fun h4 => ?_) (fun h4 => ?_)
  · -- 4 t
    refine lv_iconst (v := (-1)) hx hb d_Mod_document_15 (by decide) ?_
    refine hret (-1) (u, (a, x, o)) _ _ _ _ ?_ hW hS d_Mod_document_16
    unfold rDc
    first
      | exact ⟨rfl, by rw [if_pos h4]⟩
      | (refine ⟨rfl, ?_⟩
         rw [if_neg h4]
         unfold rDo
         rw [hcn]
         cases e : pEq (a 15) w1 ng with
         | false => rfl
         | true => exact absurd (Int32.not_lt.mp (hr1 e)) h12)
  · -- 4 f
    refine lv_aload_n hx hb d_Mod_document_7 rfl (lv_at hl 0 rfl) ?_
    refine lv_iload_n hx hb d_Mod_document_8 rfl (lv_at hl 1 rfl) ?_
    refine gc_iV (As := [.int w1]) (b := ad 74) (rest := []) X cw_Mod_127 (C_Mod_placeInCorpus l (u := u) (a := a) (x := x) (o := o) (w1 := w1) hng (by omega)) hW hS (gW_recv (ci := 7) (fs := gf7 ad) hK hW (by omega) (fun σ τ => ge_7 rfl σ τ) (r := (R_Mod, F_Mod, 37)) rfl) ⟨Nat.le_trans (Nat.le_of_ble_eq_true rfl) hR.1, Nat.le_trans (Nat.le_of_ble_eq_true rfl) hR.2⟩ rfl hl.1 rfl (Nat.le_of_ble_eq_true rfl) d_Mod_document_9 ⟨Nat.zero_le _, Nat.zero_le _⟩ (fun pc9 t H locs hp hW hS => ?_)
    obtain ⟨rfl, hr1, hr2⟩ := hp
    have hW : gW g A ad np u (a, x, o) H := hW
    refine lv_if_ge (tgt := 17) hx hb d_Mod_document_12 (by decide) (fun h12 => ?_) (fun h12 => ?_)
    · -- 12 t
      have hpe : pEq (a 15) w1 ng = true := by
        cases e : pEq (a 15) w1 ng with
        | true => rfl
        | false => exact absurd h12 (by rw [hr2 e]; decide)
      obtain ⟨i0, hi0, ei0⟩ := pEq_of hpe
      obtain ⟨P, hP, eP⟩ := hd.1 i0 hi0
      obtain rfl : w1 = nI P := ei0.symm.trans eP
      have erd : rDc a (nI P) = sDo a P ng := by unfold rDc rDo; rw [if_neg h4, hcn, if_neg (by rw [hpe]; decide), nI_clamp (by omega)]
      obtain ⟨wp, hwp8, hwp⟩ := (hw.2.2.1 P hP).2.2.2.1
      refine lv_iconst (v := 0) hx hb d_Mod_document_17 (by decide) ?_
      refine lv_istore_n hx hb d_Mod_document_18 rfl hl (by decide) rfl (fun ls hl => ?_)
      have hl : lv_has ls 3 [(2, .int 0), (0, .ref (ad 74)), (1, .int (nI P))] := hl
      have lp19 : ∀ (fuel : Nat) (i : Nat) (ls : Array Slot) (H : Heap) (locs : List Loc), (i ≤ ng) → (sDo a P i = -1) → ng - i < fuel → lv_has ls 3 [(0, .ref (ad 74)), (1, .int (nI P)), (2, .int (nI i))] → gW g A ad np u (a, x, o) H → va_S A s.heap H locs → W p l e R s m args below meth c H locs 0 0 Q (F0 m 19 ls []) := by
        intro fuel
        induction fuel with
        | zero => intro i ls H locs _ _ hfu; exact absurd hfu (Nat.not_lt_zero _)
        | succ fuel ih19 =>
          intro i ls H locs hi hs hfu hl hW hS
          refine lv_iload_n hx hb d_Mod_document_19 rfl (lv_at hl 2 rfl) ?_
          refine lv_aload_n hx hb d_Mod_document_20 rfl (lv_at hl 0 rfl) ?_
          refine gf_Mod_114 (z := nI ng) X hW  (gv_2_0_25 _) rfl hng d_Mod_document_21 ?_
          refine lv_icmp_ge (tgt := 54) hx hb d_Mod_document_24 (by decide) (fun h24 => ?_) (fun h24 => ?_)
          · -- 24 t
            have h24 : ng ≤ i := (nI_leI (a := ng) (b := i) (by omega) (by omega)).mp h24
            refine lv_iconst (v := (-1)) hx hb d_Mod_document_54 (by decide) ?_
            refine hret (-1) (u, (a, x, o)) _ _ _ _ ?_ hW hS d_Mod_document_55
            exact ⟨rfl, by rw [erd, show ng = i by omega, hs]⟩
          · -- 24 f
            have h24 : i < ng := Nat.lt_of_not_le fun q => h24 ((nI_leI (a := ng) (b := i) (by omega) (by omega)).mpr q)
            obtain ⟨c9, hc9, ec⟩ := hd.1 i (by omega)
            obtain ⟨wc, hwc8, hwc⟩ := (hw.2.2.1 c9 hc9).2.2.2.1
            refine lv_aload_n hx hb d_Mod_document_27 rfl (lv_at hl 0 rfl) ?_
            refine lv_aload_n hx hb d_Mod_document_28 rfl (lv_at hl 0 rfl) ?_
            refine gf_Mod_53 X hW  d_Mod_document_29 ?_
            refine lv_iload_n hx hb d_Mod_document_32 rfl (lv_at hl 2 rfl) ?_
            refine gy_ia (z := nI c9) (q := (2, 15, i)) hx hb hK hW (by omega) rfl (show vp_in _ 32 from vp_in_nI (by omega) (by decide)) (gv_2_15 (by omega)) ((gi_2_15 _).trans (by rw [nI_clamp (by omega)])) ec d_Mod_document_33 ?_
            refine lv_iload_n hx hb d_Mod_document_34 rfl (lv_at hl 1 rfl) ?_
            refine gc_iV (As := [.int (nI c9), .int (nI P)]) (b := ad 74) (rest := []) X cw_Mod_162 (C_Mod_sameBody l (u := u) (a := a) (x := x) (o := o) (P := c9) (Q1 := P) (by omega) (by omega) hwc hwc8 hwp hwp8) hW hS (gW_recv (ci := 7) (fs := gf7 ad) hK hW (by omega) (fun σ τ => ge_7 rfl σ τ) (r := (R_Mod, F_Mod, 37)) rfl) ⟨Nat.le_trans (Nat.le_of_ble_eq_true rfl) hR.1, Nat.le_trans (Nat.le_of_ble_eq_true rfl) hR.2⟩ rfl hl.1 rfl (Nat.le_of_ble_eq_true rfl) d_Mod_document_35 ⟨Nat.zero_le _, Nat.zero_le _⟩ (fun r t H locs hp hW hS => ?_)
            obtain ⟨rfl, rfl⟩ := hp
            have hW : gW g A ad np u (a, x, o) H := hW
            refine lv_if_eq (tgt := 48) hx hb d_Mod_document_38 (by decide) (fun h38 => ?_) (fun h38 => ?_)
            · -- 38 t
              have h38 : (sBd a c9 P) = false := bI_0 h38
              refine lv_iinc (v := nI (i + 1)) (k := 2) hx hb d_Mod_document_48 hl rfl (nI_inc i) (by decide) rfl (fun ls hl => ?_)
              have hl : lv_has ls 3 [(2, .int (nI (i + 1))), (0, .ref (ad 74)), (1, .int (nI P))] := hl
              refine lv_goto (tgt := 19) hx hb d_Mod_document_51 (by decide) ?_
              exact ih19 (i + 1) _ _ _ (by omega) (sDo_no hs (by rw [ec, nI_clamp (by omega)]; exact h38)) (by omega) (lv_sub hl [1, 2, 0] rfl) hW hS
            · -- 38 f
              have h38 : (sBd a c9 P) = true := bI_n0 h38
              refine lv_aload_n hx hb d_Mod_document_41 rfl (lv_at hl 0 rfl) ?_
              refine gf_Mod_53 X hW  d_Mod_document_42 ?_
              refine lv_iload_n hx hb d_Mod_document_45 rfl (lv_at hl 2 rfl) ?_
              refine gy_ia (z := nI c9) (q := (2, 15, i)) hx hb hK hW (by omega) rfl (show vp_in _ 32 from vp_in_nI (by omega) (by decide)) (gv_2_15 (by omega)) ((gi_2_15 _).trans (by rw [nI_clamp (by omega)])) ec d_Mod_document_46 ?_
              refine hret (nI c9) (u, (a, x, o)) _ _ _ _ ?_ hW hS d_Mod_document_47
              have h9 := sDo_hit hs (by rw [ec, nI_clamp (by omega)]; exact h38) (by rw [ec]; exact nI_neg (by omega) (by decide)) (ng - (i + 1))
              rw [show i + 1 + (ng - (i + 1)) = ng by omega, ec] at h9
              exact ⟨rfl, by rw [erd, h9]⟩
      exact lp19 _ 0 _ _ _ (Nat.zero_le _) rfl (Nat.lt_succ_self _) (lv_sub hl [1, 2, 0] rfl) hW hS
    · -- 12 f
      refine lv_iconst (v := (-1)) hx hb d_Mod_document_15 (by decide) ?_
      refine hret (-1) (u, (a, x, o)) _ _ _ _ ?_ hW hS d_Mod_document_16
      unfold rDc
      first
        | exact ⟨rfl, by rw [if_pos h4]⟩
        | (refine ⟨rfl, ?_⟩
           rw [if_neg h4]
           unfold rDo
           rw [hcn]
           cases e : pEq (a 15) w1 ng with
           | false => rfl
           | true => exact absurd (Int32.not_lt.mp (hr1 e)) h12)
theorem C_Mod_document (l : Launch) {g : gG} {A : Nat → Prop} {ad : Nat → Nat} {np : Nat} {u : gS} {a x : gA} {o : gL} {nm ng : Nat} {w1 : Int32} (hw : WFw nm a) (hng : a 0 25 = nI ng) (hd : dst (a 15) ng nm) : CtI l y_Mod_document b_Mod_document 3 .int 1 [.ref (ad 74), .int w1] g A ad np u (a, x, o) (fun r t => t = (u, (a, x, o)) ∧ r = rDc a w1) := mkI (by decide) rfl (Nat.le_of_ble_eq_true rfl) (fun _ _ _ => rfl) (B_Mod_document l hw hng hd)

set_option maxHeartbeats 400000 in
set_option maxRecDepth 20000 in
theorem B_Mod_isDocument (l : Launch) {g : gG} {A : Nat → Prop} {ad : Nat → Nat} {np : Nat} {u : gS} {a x : gA} {o : gL} {nm ng : Nat} {w1 : Int32} (hw : WFw nm a) (hng : a 0 25 = nI ng) (hd : dst (a 15) ng nm) (hon : ¬ a 0 13 = 0) : BdI l b_Mod_isDocument 2 R_Mod 2 [.ref (ad 74), .int w1] g A ad np u (a, x, o) (fun r t => t = (u, (a, x, o)) ∧ r = bI (sIsD a w1)) := by
  intro p e R s m args below meth c Q ls X hW hS hR hl hret
  have hx := X.1.1
  have hb := X.1.2.1
  have hml := X.1.2.2.1
  have hown := X.1.2.2.2.1
  have hts := X.1.2.2.2.2
  have hK := X.2.1
  have hl : lv_has ls 2 [(0, .ref (ad 74)), (1, .int w1)] := hl
  refine lv_iload_n hx hb d_Mod_isDocument_0 rfl (lv_at hl 1 rfl) ?_
  refine lv_if_lt (tgt := 17) hx hb d_Mod_isDocument_1 (by decide) (fun h1 => ?_) (fun h1 => ?_)
  · -- 1 t
    refine lv_iconst (v := 0) hx hb d_Mod_isDocument_17 (by decide) ?_
    refine hret 0 (u, (a, x, o)) _ _ _ _ ?_ hW hS d_Mod_isDocument_18
    first | exact ⟨rfl, by unfold sIsD; rw [decide_eq_false (Int32.not_le.mpr h1)]; rfl⟩ | exact ⟨rfl, by unfold sIsD; rw [decide_eq_false h10, Bool.and_false]; rfl⟩
  · -- 1 f
    refine lv_aload_n hx hb d_Mod_isDocument_4 rfl (lv_at hl 0 rfl) ?_
    refine lv_iload_n hx hb d_Mod_isDocument_5 rfl (lv_at hl 1 rfl) ?_
    refine gc_iV (As := [.int w1]) (b := ad 74) (rest := []) X cw_Mod_166 (C_Mod_document l (u := u) (a := a) (x := x) (o := o) (nm := nm) (w1 := w1) hw hng hd) hW hS (gW_recv (ci := 7) (fs := gf7 ad) hK hW (by omega) (fun σ τ => ge_7 rfl σ τ) (r := (R_Mod, F_Mod, 37)) rfl) ⟨Nat.le_trans (Nat.le_of_ble_eq_true rfl) hR.1, Nat.le_trans (Nat.le_of_ble_eq_true rfl) hR.2⟩ rfl hl.1 rfl (Nat.le_of_ble_eq_true rfl) d_Mod_isDocument_6 ⟨Nat.zero_le _, Nat.zero_le _⟩ (fun r t H locs hp hW hS => ?_)
    obtain ⟨rfl, hr9⟩ := hp
    unfold rDc at hr9
    rw [if_neg hon] at hr9
    subst hr9
    have hW : gW g A ad np u (a, x, o) H := hW
    refine lv_iload_n hx hb d_Mod_isDocument_9 rfl (lv_at hl 1 rfl) ?_
    refine lv_icmp_ne (tgt := 17) hx hb d_Mod_isDocument_10 (by decide) (fun h10 => ?_) (fun h10 => ?_)
    · -- 10 t
      refine lv_iconst (v := 0) hx hb d_Mod_isDocument_17 (by decide) ?_
      refine hret 0 (u, (a, x, o)) _ _ _ _ ?_ hW hS d_Mod_isDocument_18
      first | exact ⟨rfl, by unfold sIsD; rw [decide_eq_false (Int32.not_le.mpr h1)]; rfl⟩ | exact ⟨rfl, by unfold sIsD; rw [decide_eq_false h10, Bool.and_false]; rfl⟩
    · -- 10 f
      refine lv_iconst (v := 1) hx hb d_Mod_isDocument_13 (by decide) ?_
      refine lv_goto (tgt := 18) hx hb d_Mod_isDocument_14 (by decide) ?_
      refine hret 1 (u, (a, x, o)) _ _ _ _ ?_ hW hS d_Mod_isDocument_18
      exact ⟨rfl, by unfold sIsD; rw [decide_eq_true (Int32.not_lt.mp h1), decide_eq_true h10]; rfl⟩
theorem C_Mod_isDocument (l : Launch) {g : gG} {A : Nat → Prop} {ad : Nat → Nat} {np : Nat} {u : gS} {a x : gA} {o : gL} {nm ng : Nat} {w1 : Int32} (hw : WFw nm a) (hng : a 0 25 = nI ng) (hd : dst (a 15) ng nm) (hon : ¬ a 0 13 = 0) : CtI l y_Mod_isDocument b_Mod_isDocument 2 .boolean 2 [.ref (ad 74), .int w1] g A ad np u (a, x, o) (fun r t => t = (u, (a, x, o)) ∧ r = bI (sIsD a w1)) := mkI (by decide) rfl (Nat.le_of_ble_eq_true rfl) (fun r t h => h.2 ▸ bI_nar _) (B_Mod_isDocument l hw hng hd hon)

set_option maxHeartbeats 400000 in
set_option maxRecDepth 20000 in
theorem B_Mod_sum (l : Launch) {g : gG} {A : Nat → Prop} {ad : Nat → Nat} {np : Nat} {u : gS} {a x : gA} {o : gL} {nm ng hp dd : Nat} {rk : Nat → Int64} (hw : WFw nm a) (hng : a 0 25 = nI ng) (hd : dst (a 15) ng nm) (hon : ¬ a 0 13 = 0) (hld : ∀ e, e < nm → ∀ k, k < lkN a e → x 0 (5 * e + k) = ld a hp e k) (hrk : ∀ e, e < nm → o 1 e = rk e) (hdd : dd < 32) : BdL l b_Mod_sum 9 R_Mod 3 [.ref (ad 74), .int (nI dd)] g A ad np u (a, x, o) (fun r t => t = (u, (a, x, o)) ∧ r = smF a hp rk dd ng) := by
  intro p e R s m args below meth c Q ls X hW hS hR hl hret
  have hx := X.1.1
  have hb := X.1.2.1
  have hml := X.1.2.2.1
  have hown := X.1.2.2.2.1
  have hts := X.1.2.2.2.2
  have hK := X.2.1
  have hl : lv_has ls 9 [(0, .ref (ad 74)), (1, .int (nI dd))] := hl
  have hnp := hw.1
  have hng32 := dst_le hd hnp
  refine lv_lconst (v := 0) hx hb d_Mod_sum_0 (by decide) ?_
  refine lv_lstore_n hx hb d_Mod_sum_1 rfl hl (by decide) rfl (fun ls hl => ?_)
  have hl : lv_has ls 9 [(2, .long 0), (0, .ref (ad 74)), (1, .int (nI dd))] := hl
  refine lv_iconst (v := 0) hx hb d_Mod_sum_2 (by decide) ?_
  refine lv_istore hx hb d_Mod_sum_3 hl (by decide) rfl (fun ls hl => ?_)
  have hl : lv_has ls 9 [(4, .int 0), (2, .long 0), (0, .ref (ad 74)), (1, .int (nI dd))] := hl
  have lp5 : ∀ (fuel : Nat) (i : Nat) (ls : Array Slot) (H : Heap) (locs : List Loc), (i ≤ ng) → ng - i < fuel → lv_has ls 9 [(0, .ref (ad 74)), (1, .int (nI dd)), (2, .long (smF a hp rk dd i)), (4, .int (nI i))] → gW g A ad np u (a, x, o) H → va_S A s.heap H locs → W p l e R s m args below meth c H locs 0 0 Q (F0 m 5 ls []) := by
    intro fuel
    induction fuel with
    | zero => intro i ls H locs _ hfu; exact absurd hfu (Nat.not_lt_zero _)
    | succ fuel ih5 =>
      intro i ls H locs hi hfu hl hW hS
      refine lv_iload hx hb d_Mod_sum_5 (lv_at hl 3 rfl) ?_
      refine lv_aload_n hx hb d_Mod_sum_7 rfl (lv_at hl 0 rfl) ?_
      refine gf_Mod_114 (z := nI ng) X hW  (gv_2_0_25 _) rfl hng d_Mod_sum_8 ?_
      refine lv_icmp_ge (tgt := 141) hx hb d_Mod_sum_11 (by decide) (fun h11 => ?_) (fun h11 => ?_)
      · -- 11 t
        have h11 : ng ≤ i := (nI_leI (a := ng) (b := i) (by omega) (by omega)).mp h11
        refine lv_lload_n hx hb d_Mod_sum_141 rfl (lv_at hl 2 rfl) ?_
        refine hret (smF a hp rk dd i) (u, (a, x, o)) _ _ _ _ ?_ hW hS d_Mod_sum_142
        exact ⟨rfl, by rw [show ng = i by omega]⟩
      · -- 11 f
        have h11 : i < ng := Nat.lt_of_not_le fun q => h11 ((nI_leI (a := ng) (b := i) (by omega) (by omega)).mpr q)
        obtain ⟨e9, he9, ee⟩ := hd.1 i (by omega)
        obtain ⟨lk, hlk5, hlk, hll⟩ := (hw.2.2.1 e9 he9).2.2.2.2
        have elk : lkN a e9 = lk := by unfold lkN; rw [hlk, nI_clamp (by omega)]
        refine lv_aload_n hx hb d_Mod_sum_14 rfl (lv_at hl 0 rfl) ?_
        refine gf_Mod_53 X hW  d_Mod_sum_15 ?_
        refine lv_iload hx hb d_Mod_sum_18 (lv_at hl 3 rfl) ?_
        refine gy_ia (z := nI e9) (q := (2, 15, i)) hx hb hK hW (by omega) rfl (show vp_in _ 32 from vp_in_nI (by omega) (by decide)) (gv_2_15 (by omega)) ((gi_2_15 _).trans (by rw [nI_clamp (by omega)])) ee d_Mod_sum_20 ?_
        refine lv_istore hx hb d_Mod_sum_21 hl (by decide) rfl (fun ls hl => ?_)
        have hl : lv_has ls 9 [(5, .int (nI e9)), (0, .ref (ad 74)), (1, .int (nI dd)), (2, .long (smF a hp rk dd i)), (4, .int (nI i))] := hl
        refine lv_iconst (v := 0) hx hb d_Mod_sum_23 (by decide) ?_
        refine lv_istore hx hb d_Mod_sum_24 hl (by decide) rfl (fun ls hl => ?_)
        have hl : lv_has ls 9 [(6, .int 0), (5, .int (nI e9)), (0, .ref (ad 74)), (1, .int (nI dd)), (2, .long (smF a hp rk dd i)), (4, .int (nI i))] := hl
        refine lv_iconst (v := 0) hx hb d_Mod_sum_26 (by decide) ?_
        refine lv_istore hx hb d_Mod_sum_27 hl (by decide) rfl (fun ls hl => ?_)
        have hl : lv_has ls 9 [(7, .int 0), (6, .int 0), (5, .int (nI e9)), (0, .ref (ad 74)), (1, .int (nI dd)), (2, .long (smF a hp rk dd i)), (4, .int (nI i))] := hl
        refine lv_iconst (v := 0) hx hb d_Mod_sum_29 (by decide) ?_
        refine lv_istore hx hb d_Mod_sum_30 hl (by decide) rfl (fun ls hl => ?_)
        have hl : lv_has ls 9 [(8, .int 0), (7, .int 0), (6, .int 0), (5, .int (nI e9)), (0, .ref (ad 74)), (1, .int (nI dd)), (2, .long (smF a hp rk dd i)), (4, .int (nI i))] := hl
        have lp32 : ∀ (fuel : Nat) (k : Nat) (ls : Array Slot) (H : Heap) (locs : List Loc), (k ≤ lk) → lk - k < fuel → lv_has ls 9 [(0, .ref (ad 74)), (1, .int (nI dd)), (2, .long (smF a hp rk dd i)), (4, .int (nI i)), (5, .int (nI e9)), (6, .int (nI (usN a hp e9 k))), (7, .int (nI (hrN a hp e9 (nI dd) k))), (8, .int (nI k))] → gW g A ad np u (a, x, o) H → va_S A s.heap H locs → W p l e R s m args below meth c H locs 0 0 Q (F0 m 32 ls []) := by
          intro fuel
          induction fuel with
          | zero => intro k ls H locs _ hfu; exact absurd hfu (Nat.not_lt_zero _)
          | succ fuel ih32 =>
            intro k ls H locs hk hfu hl hW hS
            refine lv_iload hx hb d_Mod_sum_32 (lv_at hl 7 rfl) ?_
            refine lv_aload_n hx hb d_Mod_sum_34 rfl (lv_at hl 0 rfl) ?_
            refine gf_Mod_28 X hW  d_Mod_sum_35 ?_
            refine lv_iload hx hb d_Mod_sum_38 (lv_at hl 4 rfl) ?_
            refine gy_ia (z := nI lk) (q := (2, 7, e9)) hx hb hK hW (by omega) rfl (show vp_in _ 32 from vp_in_nI (by omega) (by decide)) (gv_2_7 (by omega)) ((gi_2_7 _).trans (by rw [nI_clamp (by omega)])) hlk d_Mod_sum_40 ?_
            refine lv_icmp_ge (tgt := 103) hx hb d_Mod_sum_41 (by decide) (fun h41 => ?_) (fun h41 => ?_)
            · -- 41 t
              have h41 : lk ≤ k := (nI_leI (a := lk) (b := k) (by omega) (by omega)).mp h41
              obtain rfl : k = lk := by omega
              have hu9 := usN_le (a := a) (hp := hp) (e := e9) k
              have hh9 := hrN_le (a := a) (hp := hp) (e := e9) (d := nI dd) k
              refine lv_iload hx hb d_Mod_sum_103 (lv_at hl 6 rfl) ?_
              refine lv_if_le (tgt := 135) hx hb d_Mod_sum_105 (by decide) (fun h105 => ?_) (fun h105 => ?_)
              · -- 105 t
                have h105 : (hrN a hp e9 (nI dd) k) ≤ 0 := (nI_leI (a := (hrN a hp e9 (nI dd) k)) (b := 0) (by omega) (by omega)).mp h105
                refine lv_iinc (v := nI (i + 1)) (k := 3) hx hb d_Mod_sum_135 hl rfl (nI_inc i) (by decide) rfl (fun ls hl => ?_)
                have hl : lv_has ls 9 [(4, .int (nI (i + 1))), (0, .ref (ad 74)), (1, .int (nI dd)), (2, .long (smF a hp rk dd i)), (5, .int (nI e9)), (6, .int (nI (usN a hp e9 k))), (7, .int (nI (hrN a hp e9 (nI dd) k))), (8, .int (nI k))] := hl
                refine lv_goto (tgt := 5) hx hb d_Mod_sum_138 (by decide) ?_
                have e2 : smF a hp rk dd (i + 1) = _ := if_neg (fun q => by rw [ee, nI_clamp (by omega), elk] at q; first | (have := q.1; omega) | (have := q.2; rw [h114] at this; cases this))
                exact ih5 (i + 1) _ _ _ (by omega) (by omega) (by rw [e2]; exact (lv_sub hl [1, 2, 3, 0] rfl)) hW hS
              · -- 105 f
                have h105 : 0 < (hrN a hp e9 (nI dd) k) := Nat.lt_of_not_le fun q => h105 ((nI_leI (a := (hrN a hp e9 (nI dd) k)) (b := 0) (by omega) (by omega)).mpr q)
                refine lv_aload_n hx hb d_Mod_sum_108 rfl (lv_at hl 0 rfl) ?_
                refine lv_iload hx hb d_Mod_sum_109 (lv_at hl 4 rfl) ?_
                refine gc_iV (As := [.int (nI e9)]) (b := ad 74) (rest := []) X cw_Mod_181 (C_Mod_isDocument l (u := u) (a := a) (x := x) (o := o) (nm := nm) (w1 := nI e9) hw hng hd hon) hW hS (gW_recv (ci := 7) (fs := gf7 ad) hK hW (by omega) (fun σ τ => ge_7 rfl σ τ) (r := (R_Mod, F_Mod, 37)) rfl) ⟨Nat.le_trans (Nat.le_of_ble_eq_true rfl) hR.1, Nat.le_trans (Nat.le_of_ble_eq_true rfl) hR.2⟩ rfl hl.1 rfl (Nat.le_of_ble_eq_true rfl) d_Mod_sum_111 ⟨Nat.zero_le _, Nat.zero_le _⟩ (fun r t H locs hp hW hS => ?_)
                obtain ⟨rfl, rfl⟩ := hp
                have hW : gW g A ad np u (a, x, o) H := hW
                refine lv_if_eq (tgt := 135) hx hb d_Mod_sum_114 (by decide) (fun h114 => ?_) (fun h114 => ?_)
                · -- 114 t
                  have h114 : (sIsD a (nI e9)) = false := bI_0 h114
                  refine lv_iinc (v := nI (i + 1)) (k := 3) hx hb d_Mod_sum_135 hl rfl (nI_inc i) (by decide) rfl (fun ls hl => ?_)
                  have hl : lv_has ls 9 [(4, .int (nI (i + 1))), (0, .ref (ad 74)), (1, .int (nI dd)), (2, .long (smF a hp rk dd i)), (5, .int (nI e9)), (6, .int (nI (usN a hp e9 k))), (7, .int (nI (hrN a hp e9 (nI dd) k))), (8, .int (nI k))] := hl
                  refine lv_goto (tgt := 5) hx hb d_Mod_sum_138 (by decide) ?_
                  have e2 : smF a hp rk dd (i + 1) = _ := if_neg (fun q => by rw [ee, nI_clamp (by omega), elk] at q; first | (have := q.1; omega) | (have := q.2; rw [h114] at this; cases this))
                  exact ih5 (i + 1) _ _ _ (by omega) (by omega) (by rw [e2]; exact (lv_sub hl [1, 2, 3, 0] rfl)) hW hS
                · -- 114 f
                  have h114 : (sIsD a (nI e9)) = true := bI_n0 h114
                  refine lv_lload_n hx hb d_Mod_sum_117 rfl (lv_at hl 2 rfl) ?_
                  refine lv_iload hx hb d_Mod_sum_118 (lv_at hl 6 rfl) ?_
                  refine lv_i2l hx hb d_Mod_sum_120 rfl ?_
                  refine lv_aload_n hx hb d_Mod_sum_121 rfl (lv_at hl 0 rfl) ?_
                  refine gf_Mod_66 X hW  d_Mod_sum_122 ?_
                  refine lv_iload hx hb d_Mod_sum_125 (lv_at hl 4 rfl) ?_
                  refine gy_laM (w := rk e9) (k := 1) hx hb hK hW (by decide) (vp_in_nI (by omega) (by decide)) (by rw [nI_clamp (by omega)]; exact hrk e9 he9) d_Mod_sum_127 ?_
                  refine lv_iload hx hb d_Mod_sum_128 (lv_at hl 5 rfl) ?_
                  refine lv_i2l hx hb d_Mod_sum_130 rfl ?_
                  refine lv_ldiv hx hb d_Mod_sum_131 (i64_nz (Nat.lt_of_lt_of_le h105 (hrN_us (nI_neg (by omega) (by decide)) _)) (by omega)) ?_
                  refine lv_lmul hx hb d_Mod_sum_132 ?_
                  refine lv_ladd hx hb d_Mod_sum_133 ?_
                  refine lv_lstore_n hx hb d_Mod_sum_134 rfl hl (by decide) rfl (fun ls hl => ?_)
                  have hl : lv_has ls 9 [(2, .long ((smF a hp rk dd i) + (((nI (hrN a hp e9 (nI dd) k)).toInt64) * ((rk e9) / ((nI (usN a hp e9 k)).toInt64))))), (0, .ref (ad 74)), (1, .int (nI dd)), (4, .int (nI i)), (5, .int (nI e9)), (6, .int (nI (usN a hp e9 k))), (7, .int (nI (hrN a hp e9 (nI dd) k))), (8, .int (nI k))] := hl
                  refine lv_iinc (v := nI (i + 1)) (k := 3) hx hb d_Mod_sum_135 hl rfl (nI_inc i) (by decide) rfl (fun ls hl => ?_)
                  have hl : lv_has ls 9 [(4, .int (nI (i + 1))), (2, .long ((smF a hp rk dd i) + (((nI (hrN a hp e9 (nI dd) k)).toInt64) * ((rk e9) / ((nI (usN a hp e9 k)).toInt64))))), (0, .ref (ad 74)), (1, .int (nI dd)), (5, .int (nI e9)), (6, .int (nI (usN a hp e9 k))), (7, .int (nI (hrN a hp e9 (nI dd) k))), (8, .int (nI k))] := hl
                  refine lv_goto (tgt := 5) hx hb d_Mod_sum_138 (by decide) ?_
                  have e2 : smF a hp rk dd (i + 1) = _ := if_pos ⟨by rw [ee, nI_clamp (by omega), elk]; omega, by rw [ee]; exact h114⟩
                  rw [ee, nI_clamp (by omega), elk] at e2
                  exact ih5 (i + 1) _ _ _ (by omega) (by omega) (by rw [e2]; exact (lv_sub hl [2, 3, 1, 0] rfl)) hW hS
            · -- 41 f
              have h41 : k < lk := Nat.lt_of_not_le fun q => h41 ((nI_leI (a := lk) (b := k) (by omega) (by omega)).mpr q)
              have hu9 := usN_le (a := a) (hp := hp) (e := e9) k
              have hh9 := hrN_le (a := a) (hp := hp) (e := e9) (d := nI dd) k
              have hldk := hld e9 he9 k (by omega)
              refine lv_aload_n hx hb d_Mod_sum_44 rfl (lv_at hl 0 rfl) ?_
              refine gf_Mod_59 X hW  d_Mod_sum_45 ?_
              refine lv_iconst (v := 5) hx hb d_Mod_sum_48 (by decide) ?_
              refine lv_iload hx hb d_Mod_sum_49 (lv_at hl 4 rfl) ?_
              refine lv_imul hx hb d_Mod_sum_51 ?_
              rw [show 5 * (nI e9) = nI (5 * e9) from pk_mul 5 e9]
              refine lv_iload hx hb d_Mod_sum_52 (lv_at hl 7 rfl) ?_
              refine lv_iadd hx hb d_Mod_sum_54 ?_
              rw [show (nI (5 * e9)) + (nI k) = nI (5 * e9 + k) from nI_add _ _]
              refine gy_ia (z := ld a hp e9 k) (q := (3, 0, (5 * e9 + k))) hx hb hK hW (by omega) rfl (show vp_in _ 160 from vp_in_nI (by omega) (by decide)) (gv_3_0 (by omega)) ((gi_3_0 _).trans (by rw [nI_clamp (by omega)])) hldk d_Mod_sum_55 ?_
              refine lv_if_lt (tgt := 66) hx hb d_Mod_sum_56 (by decide) (fun h56 => ?_) (fun h56 => ?_)
              · -- 56 t
                have hl0 : ld a hp e9 k = -1 := (rDo_pg hng hd hnp _).elim id (fun ⟨q, h1, h2⟩ => absurd h56 (by show ¬ rDo _ _ < 0; rw [h2]; exact nI_pos (by omega)))
                refine lv_iload hx hb d_Mod_sum_66 (lv_at hl 5 rfl) ?_
                refine lv_istore hx hb d_Mod_sum_68 hl (by decide) rfl (fun ls hl => ?_)
                have hl : lv_has ls 9 [(6, .int (nI (usN a hp e9 k))), (0, .ref (ad 74)), (1, .int (nI dd)), (2, .long (smF a hp rk dd i)), (4, .int (nI i)), (5, .int (nI e9)), (7, .int (nI (hrN a hp e9 (nI dd) k))), (8, .int (nI k))] := hl
                refine lv_aload_n hx hb d_Mod_sum_70 rfl (lv_at hl 1 rfl) ?_
                refine gf_Mod_59 X hW  d_Mod_sum_71 ?_
                refine lv_iconst (v := 5) hx hb d_Mod_sum_74 (by decide) ?_
                refine lv_iload hx hb d_Mod_sum_75 (lv_at hl 5 rfl) ?_
                refine lv_imul hx hb d_Mod_sum_77 ?_
                rw [show 5 * (nI e9) = nI (5 * e9) from pk_mul 5 e9]
                refine lv_iload hx hb d_Mod_sum_78 (lv_at hl 7 rfl) ?_
                refine lv_iadd hx hb d_Mod_sum_80 ?_
                rw [show (nI (5 * e9)) + (nI k) = nI (5 * e9 + k) from nI_add _ _]
                refine gy_ia (z := ld a hp e9 k) (q := (3, 0, (5 * e9 + k))) hx hb hK hW (by omega) rfl (show vp_in _ 160 from vp_in_nI (by omega) (by decide)) (gv_3_0 (by omega)) ((gi_3_0 _).trans (by rw [nI_clamp (by omega)])) hldk d_Mod_sum_81 ?_
                refine lv_iload_n hx hb d_Mod_sum_82 rfl (lv_at hl 2 rfl) ?_
                refine lv_icmp_ne (tgt := 93) hx hb d_Mod_sum_83 (by decide) (fun h83 => ?_) (fun h83 => ?_)
                · -- 83 t
                  refine lv_iload hx hb d_Mod_sum_93 (lv_at hl 6 rfl) ?_
                  refine lv_istore hx hb d_Mod_sum_95 hl (by decide) rfl (fun ls hl => ?_)
                  have hl : lv_has ls 9 [(7, .int (nI (hrN a hp e9 (nI dd) k))), (6, .int (nI (usN a hp e9 k))), (0, .ref (ad 74)), (1, .int (nI dd)), (2, .long (smF a hp rk dd i)), (4, .int (nI i)), (5, .int (nI e9)), (8, .int (nI k))] := hl
                  refine lv_iinc (v := nI (k + 1)) (k := 7) hx hb d_Mod_sum_97 hl rfl (nI_inc k) (by decide) rfl (fun ls hl => ?_)
                  have hl : lv_has ls 9 [(8, .int (nI (k + 1))), (7, .int (nI (hrN a hp e9 (nI dd) k))), (6, .int (nI (usN a hp e9 k))), (0, .ref (ad 74)), (1, .int (nI dd)), (2, .long (smF a hp rk dd i)), (4, .int (nI i)), (5, .int (nI e9))] := hl
                  refine lv_goto (tgt := 32) hx hb d_Mod_sum_100 (by decide) ?_
                  have e6 : usN a hp e9 (k + 1) = usN a hp e9 k := if_pos hl0
                  have e7 : hrN a hp e9 (nI dd) (k + 1) = hrN a hp e9 (nI dd) k := if_neg h83
                  exact ih32 (k + 1) _ _ _ (by omega) (by omega) (by rw [e6, e7]; exact (lv_sub hl [3, 4, 5, 6, 7, 2, 1, 0] rfl)) hW hS
                · -- 83 f
                  refine lv_iload hx hb d_Mod_sum_86 (lv_at hl 6 rfl) ?_
                  refine lv_iconst (v := 1) hx hb d_Mod_sum_88 (by decide) ?_
                  refine lv_iadd hx hb d_Mod_sum_89 ?_
                  rw [show (nI (hrN a hp e9 (nI dd) k)) + 1 = nI (hrN a hp e9 (nI dd) k + 1) from nI_1 _]
                  refine lv_goto (tgt := 95) hx hb d_Mod_sum_90 (by decide) ?_
                  refine lv_istore hx hb d_Mod_sum_95 hl (by decide) rfl (fun ls hl => ?_)
                  have hl : lv_has ls 9 [(7, .int (nI (hrN a hp e9 (nI dd) k + 1))), (6, .int (nI (usN a hp e9 k))), (0, .ref (ad 74)), (1, .int (nI dd)), (2, .long (smF a hp rk dd i)), (4, .int (nI i)), (5, .int (nI e9)), (8, .int (nI k))] := hl
                  refine lv_iinc (v := nI (k + 1)) (k := 7) hx hb d_Mod_sum_97 hl rfl (nI_inc k) (by decide) rfl (fun ls hl => ?_)
                  have hl : lv_has ls 9 [(8, .int (nI (k + 1))), (7, .int (nI (hrN a hp e9 (nI dd) k + 1))), (6, .int (nI (usN a hp e9 k))), (0, .ref (ad 74)), (1, .int (nI dd)), (2, .long (smF a hp rk dd i)), (4, .int (nI i)), (5, .int (nI e9))] := hl
                  refine lv_goto (tgt := 32) hx hb d_Mod_sum_100 (by decide) ?_
                  have e6 : usN a hp e9 (k + 1) = usN a hp e9 k := if_pos hl0
                  have e7 : hrN a hp e9 (nI dd) (k + 1) = hrN a hp e9 (nI dd) k + 1 := if_pos h83
                  exact ih32 (k + 1) _ _ _ (by omega) (by omega) (by rw [e6, e7]; exact (lv_sub hl [3, 4, 5, 6, 7, 2, 1, 0] rfl)) hW hS
              · -- 56 f
                have hl0 : ¬ ld a hp e9 k = -1 := fun q => h56 (by rw [q]; decide)
                refine lv_iload hx hb d_Mod_sum_59 (lv_at hl 5 rfl) ?_
                refine lv_iconst (v := 1) hx hb d_Mod_sum_61 (by decide) ?_
                refine lv_iadd hx hb d_Mod_sum_62 ?_
                rw [show (nI (usN a hp e9 k)) + 1 = nI (usN a hp e9 k + 1) from nI_1 _]
                refine lv_goto (tgt := 68) hx hb d_Mod_sum_63 (by decide) ?_
                refine lv_istore hx hb d_Mod_sum_68 hl (by decide) rfl (fun ls hl => ?_)
                have hl : lv_has ls 9 [(6, .int (nI (usN a hp e9 k + 1))), (0, .ref (ad 74)), (1, .int (nI dd)), (2, .long (smF a hp rk dd i)), (4, .int (nI i)), (5, .int (nI e9)), (7, .int (nI (hrN a hp e9 (nI dd) k))), (8, .int (nI k))] := hl
                refine lv_aload_n hx hb d_Mod_sum_70 rfl (lv_at hl 1 rfl) ?_
                refine gf_Mod_59 X hW  d_Mod_sum_71 ?_
                refine lv_iconst (v := 5) hx hb d_Mod_sum_74 (by decide) ?_
                refine lv_iload hx hb d_Mod_sum_75 (lv_at hl 5 rfl) ?_
                refine lv_imul hx hb d_Mod_sum_77 ?_
                rw [show 5 * (nI e9) = nI (5 * e9) from pk_mul 5 e9]
                refine lv_iload hx hb d_Mod_sum_78 (lv_at hl 7 rfl) ?_
                refine lv_iadd hx hb d_Mod_sum_80 ?_
                rw [show (nI (5 * e9)) + (nI k) = nI (5 * e9 + k) from nI_add _ _]
                refine gy_ia (z := ld a hp e9 k) (q := (3, 0, (5 * e9 + k))) hx hb hK hW (by omega) rfl (show vp_in _ 160 from vp_in_nI (by omega) (by decide)) (gv_3_0 (by omega)) ((gi_3_0 _).trans (by rw [nI_clamp (by omega)])) hldk d_Mod_sum_81 ?_
                refine lv_iload_n hx hb d_Mod_sum_82 rfl (lv_at hl 2 rfl) ?_
                refine lv_icmp_ne (tgt := 93) hx hb d_Mod_sum_83 (by decide) (fun h83 => ?_) (fun h83 => ?_)
                · -- 83 t
                  refine lv_iload hx hb d_Mod_sum_93 (lv_at hl 6 rfl) ?_
                  refine lv_istore hx hb d_Mod_sum_95 hl (by decide) rfl (fun ls hl => ?_)
                  have hl : lv_has ls 9 [(7, .int (nI (hrN a hp e9 (nI dd) k))), (6, .int (nI (usN a hp e9 k + 1))), (0, .ref (ad 74)), (1, .int (nI dd)), (2, .long (smF a hp rk dd i)), (4, .int (nI i)), (5, .int (nI e9)), (8, .int (nI k))] := hl
                  refine lv_iinc (v := nI (k + 1)) (k := 7) hx hb d_Mod_sum_97 hl rfl (nI_inc k) (by decide) rfl (fun ls hl => ?_)
                  have hl : lv_has ls 9 [(8, .int (nI (k + 1))), (7, .int (nI (hrN a hp e9 (nI dd) k))), (6, .int (nI (usN a hp e9 k + 1))), (0, .ref (ad 74)), (1, .int (nI dd)), (2, .long (smF a hp rk dd i)), (4, .int (nI i)), (5, .int (nI e9))] := hl
                  refine lv_goto (tgt := 32) hx hb d_Mod_sum_100 (by decide) ?_
                  have e6 : usN a hp e9 (k + 1) = usN a hp e9 k + 1 := if_neg hl0
                  have e7 : hrN a hp e9 (nI dd) (k + 1) = hrN a hp e9 (nI dd) k := if_neg h83
                  exact ih32 (k + 1) _ _ _ (by omega) (by omega) (by rw [e6, e7]; exact (lv_sub hl [3, 4, 5, 6, 7, 2, 1, 0] rfl)) hW hS
                · -- 83 f
                  refine lv_iload hx hb d_Mod_sum_86 (lv_at hl 6 rfl) ?_
                  refine lv_iconst (v := 1) hx hb d_Mod_sum_88 (by decide) ?_
                  refine lv_iadd hx hb d_Mod_sum_89 ?_
                  rw [show (nI (hrN a hp e9 (nI dd) k)) + 1 = nI (hrN a hp e9 (nI dd) k + 1) from nI_1 _]
                  refine lv_goto (tgt := 95) hx hb d_Mod_sum_90 (by decide) ?_
                  refine lv_istore hx hb d_Mod_sum_95 hl (by decide) rfl (fun ls hl => ?_)
                  have hl : lv_has ls 9 [(7, .int (nI (hrN a hp e9 (nI dd) k + 1))), (6, .int (nI (usN a hp e9 k + 1))), (0, .ref (ad 74)), (1, .int (nI dd)), (2, .long (smF a hp rk dd i)), (4, .int (nI i)), (5, .int (nI e9)), (8, .int (nI k))] := hl
                  refine lv_iinc (v := nI (k + 1)) (k := 7) hx hb d_Mod_sum_97 hl rfl (nI_inc k) (by decide) rfl (fun ls hl => ?_)
                  have hl : lv_has ls 9 [(8, .int (nI (k + 1))), (7, .int (nI (hrN a hp e9 (nI dd) k + 1))), (6, .int (nI (usN a hp e9 k + 1))), (0, .ref (ad 74)), (1, .int (nI dd)), (2, .long (smF a hp rk dd i)), (4, .int (nI i)), (5, .int (nI e9))] := hl
                  refine lv_goto (tgt := 32) hx hb d_Mod_sum_100 (by decide) ?_
                  have e6 : usN a hp e9 (k + 1) = usN a hp e9 k + 1 := if_neg hl0
                  have e7 : hrN a hp e9 (nI dd) (k + 1) = hrN a hp e9 (nI dd) k + 1 := if_pos h83
                  exact ih32 (k + 1) _ _ _ (by omega) (by omega) (by rw [e6, e7]; exact (lv_sub hl [3, 4, 5, 6, 7, 2, 1, 0] rfl)) hW hS
        exact lp32 _ 0 _ _ _ (Nat.zero_le _) (Nat.lt_succ_self _) (lv_sub hl [4, 5, 6, 7, 3, 2, 1, 0] rfl) hW hS
  exact lp5 _ 0 _ _ _ (Nat.zero_le _) (Nat.lt_succ_self _) (lv_sub hl [2, 3, 1, 0] rfl) hW hS
theorem C_Mod_sum (l : Launch) {g : gG} {A : Nat → Prop} {ad : Nat → Nat} {np : Nat} {u : gS} {a x : gA} {o : gL} {nm ng hp dd : Nat} {rk : Nat → Int64} (hw : WFw nm a) (hng : a 0 25 = nI ng) (hd : dst (a 15) ng nm) (hon : ¬ a 0 13 = 0) (hld : ∀ e, e < nm → ∀ k, k < lkN a e → x 0 (5 * e + k) = ld a hp e k) (hrk : ∀ e, e < nm → o 1 e = rk e) (hdd : dd < 32) : CtL l y_Mod_sum b_Mod_sum 9 3 [.ref (ad 74), .int (nI dd)] g A ad np u (a, x, o) (fun r t => t = (u, (a, x, o)) ∧ r = smF a hp rk dd ng) := mkL (by decide) rfl (Nat.le_of_ble_eq_true rfl) (B_Mod_sum l hw hng hd hon hld hrk hdd)

set_option maxHeartbeats 400000 in
set_option maxRecDepth 20000 in
theorem B_Mod_rankAll (l : Launch) {g : gG} {A : Nat → Prop} {ad : Nat → Nat} {np : Nat} {u : gS} {a x : gA} {o : gL} {nm ng hp rr : Nat} (hw : WFw nm a) (hng : a 0 25 = nI ng) (hd : dst (a 15) ng nm) (hon : ¬ a 0 13 = 0) (hhp : a 0 15 = nI hp) (hp4 : hp ≤ 4) (hrr : rr ≤ 12) : BdV l b_Mod_rankAll 5 R_Mod 4 [.ref (ad 74), .int (nI rr)] g A ad np u (a, x, o) (fun t => ∃ x' o', t = (u, (a, x', o')) ∧ ∀ p, p < nm → o' 0 p = rkF a hp rr p) := by
  intro p e R s m args below meth c Q ls X hW hS hR hl hret
  have hx := X.1.1
  have hb := X.1.2.1
  have hml := X.1.2.2.1
  have hown := X.1.2.2.2.1
  have hts := X.1.2.2.2.2
  have hK := X.2.1
  have hl : lv_has ls 5 [(0, .ref (ad 74)), (1, .int (nI rr))] := hl
  have hnp := hw.1
  have hpc := hw.2.1
  have hng32 := dst_le hd hnp
  have hcn : cn a 25 = ng := cn_of hng (by omega)
  refine lv_iconst (v := 0) hx hb d_Mod_rankAll_0 (by decide) ?_
  refine lv_istore_n hx hb d_Mod_rankAll_1 rfl hl (by decide) rfl (fun ls hl => ?_)
  have hl : lv_has ls 5 [(2, .int 0), (0, .ref (ad 74)), (1, .int (nI rr))] := hl
  have lp2 : ∀ (fuel : Nat) (p1 : Nat) (x1 : gA) (o1 : gL) (ls : Array Slot) (H : Heap) (locs : List Loc), (p1 ≤ nm) → (∀ q, q < p1 → o1 0 q = 1000000) → (∀ q, q < p1 → ∀ k, k < lkN a q → x1 0 (5 * q + k) = ld a hp q k) → nm - p1 < fuel → lv_has ls 5 [(0, .ref (ad 74)), (1, .int (nI rr)), (2, .int (nI p1))] → gW g A ad np u (a, x1, o1) H → va_S A s.heap H locs → W p l e R s m args below meth c H locs 0 0 Q (F0 m 2 ls []) := by
    intro fuel
    induction fuel with
    | zero => intro p1 x1 o1 ls H locs _ _ _ hfu; exact absurd hfu (Nat.not_lt_zero _)
    | succ fuel ih2 =>
      intro p1 x1 o1 ls H locs hp1 hr1 hx1 hfu hl hW hS
      refine lv_iload_n hx hb d_Mod_rankAll_2 rfl (lv_at hl 2 rfl) ?_
      refine lv_aload_n hx hb d_Mod_rankAll_3 rfl (lv_at hl 0 rfl) ?_
      refine gf_Mod_69 (z := nI nm) X hW  (gv_2_0_0 _) rfl hpc d_Mod_rankAll_4 ?_
      refine lv_icmp_ge (tgt := 85) hx hb d_Mod_rankAll_7 (by decide) (fun h7 => ?_) (fun h7 => ?_)
      · -- 7 t
        have h7 : nm ≤ p1 := (nI_leI (a := nm) (b := p1) (by omega) (by omega)).mp h7
        obtain rfl : p1 = nm := by omega
        refine lv_iconst (v := 0) hx hb d_Mod_rankAll_85 (by decide) ?_
        refine lv_istore_n hx hb d_Mod_rankAll_86 rfl hl (by decide) rfl (fun ls hl => ?_)
        have hl : lv_has ls 5 [(2, .int 0), (0, .ref (ad 74)), (1, .int (nI rr))] := hl
        have lp87 : ∀ (fuel : Nat) (r1 : Nat) (o3 : gL) (ls : Array Slot) (H : Heap) (locs : List Loc), (r1 ≤ rr) → (∀ q, q < p1 → o3 0 q = rkF a hp r1 q) → rr - r1 < fuel → lv_has ls 5 [(0, .ref (ad 74)), (1, .int (nI rr)), (2, .int (nI r1))] → gW g A ad np u (a, x1, o3) H → va_S A s.heap H locs → W p l e R s m args below meth c H locs 0 0 Q (F0 m 87 ls []) := by
          intro fuel
          induction fuel with
          | zero => intro r1 o3 ls H locs _ _ hfu; exact absurd hfu (Nat.not_lt_zero _)
          | succ fuel ih87 =>
            intro r1 o3 ls H locs hr1b hr3 hfu hl hW hS
            refine lv_iload_n hx hb d_Mod_rankAll_87 rfl (lv_at hl 2 rfl) ?_
            refine lv_iload_n hx hb d_Mod_rankAll_88 rfl (lv_at hl 1 rfl) ?_
            refine lv_icmp_ge (tgt := 165) hx hb d_Mod_rankAll_89 (by decide) (fun h89 => ?_) (fun h89 => ?_)
            · -- 89 t
              have h89 : rr ≤ r1 := (nI_leI (a := rr) (b := r1) (by omega) (by omega)).mp h89
              refine hret (u, (a, x1, o3)) _ _ _ _ ?_ hW hS d_Mod_rankAll_165
              exact ⟨x1, o3, rfl, by rw [show rr = r1 by omega]; exact hr3⟩
            · -- 89 f
              have h89 : r1 < rr := Nat.lt_of_not_le fun q => h89 ((nI_leI (a := rr) (b := r1) (by omega) (by omega)).mpr q)
              refine lv_iconst (v := 0) hx hb d_Mod_rankAll_92 (by decide) ?_
              refine lv_istore_n hx hb d_Mod_rankAll_93 rfl hl (by decide) rfl (fun ls hl => ?_)
              have hl : lv_has ls 5 [(3, .int 0), (0, .ref (ad 74)), (1, .int (nI rr)), (2, .int (nI r1))] := hl
              have lp94 : ∀ (fuel : Nat) (q1 : Nat) (o4 : gL) (ls : Array Slot) (H : Heap) (locs : List Loc), (q1 ≤ p1) → (∀ q, q < p1 → o4 0 q = rkF a hp r1 q) → (∀ q, q < q1 → o4 1 q = rkF a hp r1 q) → p1 - q1 < fuel → lv_has ls 5 [(0, .ref (ad 74)), (1, .int (nI rr)), (2, .int (nI r1)), (3, .int (nI q1))] → gW g A ad np u (a, x1, o4) H → va_S A s.heap H locs → W p l e R s m args below meth c H locs 0 0 Q (F0 m 94 ls []) := by
                intro fuel
                induction fuel with
                | zero => intro q1 o4 ls H locs _ _ _ hfu; exact absurd hfu (Nat.not_lt_zero _)
                | succ fuel ih94 =>
                  intro q1 o4 ls H locs hq1 hr4 hb4 hfu hl hW hS
                  refine lv_iload_n hx hb d_Mod_rankAll_94 rfl (lv_at hl 3 rfl) ?_
                  refine lv_aload_n hx hb d_Mod_rankAll_95 rfl (lv_at hl 0 rfl) ?_
                  refine gf_Mod_69 (z := nI p1) X hW  (gv_2_0_0 _) rfl hpc d_Mod_rankAll_96 ?_
                  refine lv_icmp_ge (tgt := 120) hx hb d_Mod_rankAll_99 (by decide) (fun h99 => ?_) (fun h99 => ?_)
                  · -- 99 t
                    have h99 : p1 ≤ q1 := (nI_leI (a := p1) (b := q1) (by omega) (by omega)).mp h99
                    refine lv_iconst (v := 0) hx hb d_Mod_rankAll_120 (by decide) ?_
                    refine lv_istore_n hx hb d_Mod_rankAll_121 rfl hl (by decide) rfl (fun ls hl => ?_)
                    have hl : lv_has ls 5 [(3, .int 0), (0, .ref (ad 74)), (1, .int (nI rr)), (2, .int (nI r1))] := hl
                    have lp122 : ∀ (fuel : Nat) (q2 : Nat) (o5 : gL) (ls : Array Slot) (H : Heap) (locs : List Loc), (q2 ≤ p1) → (∀ q, q < p1 → o5 1 q = rkF a hp r1 q) → (∀ q, q < q2 → o5 0 q = rkF a hp (r1 + 1) q) → p1 - q2 < fuel → lv_has ls 5 [(0, .ref (ad 74)), (1, .int (nI rr)), (2, .int (nI r1)), (3, .int (nI q2))] → gW g A ad np u (a, x1, o5) H → va_S A s.heap H locs → W p l e R s m args below meth c H locs 0 0 Q (F0 m 122 ls []) := by
                      intro fuel
                      induction fuel with
                      | zero => intro q2 o5 ls H locs _ _ _ hfu; exact absurd hfu (Nat.not_lt_zero _)
                      | succ fuel ih122 =>
                        intro q2 o5 ls H locs hq2 hb5 hr5 hfu hl hW hS
                        refine lv_iload_n hx hb d_Mod_rankAll_122 rfl (lv_at hl 3 rfl) ?_
                        refine lv_aload_n hx hb d_Mod_rankAll_123 rfl (lv_at hl 0 rfl) ?_
                        refine gf_Mod_69 (z := nI p1) X hW  (gv_2_0_0 _) rfl hpc d_Mod_rankAll_124 ?_
                        refine lv_icmp_ge (tgt := 159) hx hb d_Mod_rankAll_127 (by decide) (fun h127 => ?_) (fun h127 => ?_)
                        · -- 127 t
                          have h127 : p1 ≤ q2 := (nI_leI (a := p1) (b := q2) (by omega) (by omega)).mp h127
                          refine lv_iinc (v := nI (r1 + 1)) (k := 2) hx hb d_Mod_rankAll_159 hl rfl (nI_inc r1) (by decide) rfl (fun ls hl => ?_)
                          have hl : lv_has ls 5 [(2, .int (nI (r1 + 1))), (0, .ref (ad 74)), (1, .int (nI rr)), (3, .int (nI q2))] := hl
                          refine lv_goto (tgt := 87) hx hb d_Mod_rankAll_162 (by decide) ?_
                          exact ih87 (r1 + 1) o5 _ _ _ (by omega) (fun q hq => hr5 q (by omega)) (by omega) (lv_sub hl [1, 2, 0] rfl) hW hS
                        · -- 127 f
                          have h127 : q2 < p1 := Nat.lt_of_not_le fun q => h127 ((nI_leI (a := p1) (b := q2) (by omega) (by omega)).mpr q)
                          refine lv_aload_n hx hb d_Mod_rankAll_130 rfl (lv_at hl 0 rfl) ?_
                          refine gf_Mod_62 X hW  d_Mod_rankAll_131 ?_
                          refine lv_iload_n hx hb d_Mod_rankAll_134 rfl (lv_at hl 3 rfl) ?_
                          refine lv_ldc2 (v := 150000) hx hb hown (hts _ w_Mod_constl_171) d_Mod_rankAll_135 ?_
                          refine lv_ldc2 (v := 85) hx hb hown (hts _ w_Mod_constl_173) d_Mod_rankAll_138 ?_
                          refine lv_aload_n hx hb d_Mod_rankAll_141 rfl (lv_at hl 0 rfl) ?_
                          refine lv_iload_n hx hb d_Mod_rankAll_142 rfl (lv_at hl 3 rfl) ?_
                          refine gc_lV (As := [.int (nI q2)]) (b := ad 74) (rest := [.long 85, .long 150000, .int (nI q2), .ref (ad 92)]) X cw_Mod_175 (C_Mod_sum l (u := u) (a := a) (x := x1) (o := o5) (nm := p1) (ng := ng) (hp := hp) (dd := q2) (rk := rkF a hp r1) hw hng hd hon hx1 hb5 (by omega)) hW hS (gW_recv (ci := 7) (fs := gf7 ad) hK hW (by omega) (fun σ τ => ge_7 rfl σ τ) (r := (R_Mod, F_Mod, 37)) rfl) ⟨Nat.le_trans (Nat.le_of_ble_eq_true rfl) hR.1, Nat.le_trans (Nat.le_of_ble_eq_true rfl) hR.2⟩ rfl hl.1 rfl (Nat.le_of_ble_eq_true rfl) d_Mod_rankAll_143 ⟨Nat.zero_le _, Nat.zero_le _⟩ (fun r t H locs hp hW hS => ?_)
                          obtain ⟨rfl, rfl⟩ := hp
                          have hW : gW g A ad np u (a, x1, o5) H := hW
                          refine lv_lmul hx hb d_Mod_rankAll_146 ?_
                          refine lv_ldc2 (v := 100) hx hb hown (hts _ w_Mod_constl_179) d_Mod_rankAll_147 ?_
                          refine lv_ldiv hx hb d_Mod_rankAll_150 (by decide) ?_
                          refine lv_ladd hx hb d_Mod_rankAll_151 ?_
                          refine gy_lsM (w := 150000 + ((85 * (smF a hp (rkF a hp r1) q2 ng)) / 100)) (k := 0) hx hb hK hW hS (by decide) (vp_in_nI (by omega) (by decide)) d_Mod_rankAll_152 (fun H locs hW hS => ?_)
                          have hW : gW g A ad np u (a, x1, guL o5 0 (nI q2).toNatClampNeg (150000 + ((85 * (smF a hp (rkF a hp r1) q2 ng)) / 100))) H := hW
                          refine lv_iinc (v := nI (q2 + 1)) (k := 3) hx hb d_Mod_rankAll_153 hl rfl (nI_inc q2) (by decide) rfl (fun ls hl => ?_)
                          have hl : lv_has ls 5 [(3, .int (nI (q2 + 1))), (0, .ref (ad 74)), (1, .int (nI rr)), (2, .int (nI r1))] := hl
                          refine lv_goto (tgt := 122) hx hb d_Mod_rankAll_156 (by decide) ?_
                          rw [nI_clamp (by omega)] at hW
                          have erk : rkF a hp (r1 + 1) q2 = 150000 + 85 * smF a hp (rkF a hp r1) q2 ng / 100 := by show _ + _ * smF a hp (rkF a hp r1) q2 (cn a 25) / _ = _; rw [hcn]
                          rw [← erk] at hW
                          exact ih122 (q2 + 1) (guL o5 0 q2 (rkF a hp (r1 + 1) q2)) _ _ _ (by omega) (fun q hq => (congrFun (guL_ne (by decide)) q).trans (hb5 q hq)) (fun q hq => by rw [guL_self]; by_cases c : q = q2; subst c; exact pk_uLs; rw [pk_uLn c]; exact hr5 q (by omega)) (by omega) (lv_sub hl [1, 2, 3, 0] rfl) hW hS
                    exact lp122 _ 0 o4 _ _ _ (Nat.zero_le _) (fun q hq => hb4 q (by omega)) (fun q h => absurd h (Nat.not_lt_zero _)) (Nat.lt_succ_self _) (lv_sub hl [1, 2, 3, 0] rfl) hW hS
                  · -- 99 f
                    have h99 : q1 < p1 := Nat.lt_of_not_le fun q => h99 ((nI_leI (a := p1) (b := q1) (by omega) (by omega)).mpr q)
                    refine lv_aload_n hx hb d_Mod_rankAll_102 rfl (lv_at hl 0 rfl) ?_
                    refine gf_Mod_66 X hW  d_Mod_rankAll_103 ?_
                    refine lv_iload_n hx hb d_Mod_rankAll_106 rfl (lv_at hl 3 rfl) ?_
                    refine lv_aload_n hx hb d_Mod_rankAll_107 rfl (lv_at hl 0 rfl) ?_
                    refine gf_Mod_62 X hW  d_Mod_rankAll_108 ?_
                    refine lv_iload_n hx hb d_Mod_rankAll_111 rfl (lv_at hl 3 rfl) ?_
                    refine gy_laM (w := rkF a hp r1 q1) (k := 0) hx hb hK hW (by decide) (vp_in_nI (by omega) (by decide)) (by rw [nI_clamp (by omega)]; exact hr4 q1 (by omega)) d_Mod_rankAll_112 ?_
                    refine gy_lsM (w := rkF a hp r1 q1) (k := 1) hx hb hK hW hS (by decide) (vp_in_nI (by omega) (by decide)) d_Mod_rankAll_113 (fun H locs hW hS => ?_)
                    have hW : gW g A ad np u (a, x1, guL o4 1 (nI q1).toNatClampNeg (rkF a hp r1 q1)) H := hW
                    refine lv_iinc (v := nI (q1 + 1)) (k := 3) hx hb d_Mod_rankAll_114 hl rfl (nI_inc q1) (by decide) rfl (fun ls hl => ?_)
                    have hl : lv_has ls 5 [(3, .int (nI (q1 + 1))), (0, .ref (ad 74)), (1, .int (nI rr)), (2, .int (nI r1))] := hl
                    refine lv_goto (tgt := 94) hx hb d_Mod_rankAll_117 (by decide) ?_
                    rw [nI_clamp (by omega)] at hW
                    exact ih94 (q1 + 1) (guL o4 1 q1 (rkF a hp r1 q1)) _ _ _ (by omega) (fun q hq => (congrFun (guL_ne (by decide)) q).trans (hr4 q hq)) (fun q hq => by rw [guL_self]; by_cases c : q = q1; subst c; exact pk_uLs; rw [pk_uLn c]; exact hb4 q (by omega)) (by omega) (lv_sub hl [1, 2, 3, 0] rfl) hW hS
              exact lp94 _ 0 o3 _ _ _ (Nat.zero_le _) hr3 (fun q h => absurd h (Nat.not_lt_zero _)) (Nat.lt_succ_self _) (lv_sub hl [1, 2, 3, 0] rfl) hW hS
        exact lp87 _ 0 o1 _ _ _ (Nat.zero_le _) (fun q hq => hr1 q (by omega)) (Nat.lt_succ_self _) (lv_sub hl [1, 2, 0] rfl) hW hS
      · -- 7 f
        have h7 : p1 < nm := Nat.lt_of_not_le fun q => h7 ((nI_leI (a := nm) (b := p1) (by omega) (by omega)).mpr q)
        obtain ⟨lk, hlk5, hlk, hll⟩ := (hw.2.2.1 p1 (by omega)).2.2.2.2
        have elk : lkN a p1 = lk := by unfold lkN; rw [hlk, nI_clamp (by omega)]
        have hlk5s : ∀ q, q < nm → lkN a q ≤ 5 := fun q hq => by
          obtain ⟨k9, h1, h2, -⟩ := (hw.2.2.1 q hq).2.2.2.2
          unfold lkN
          rw [h2, nI_clamp (by omega)]
          exact h1
        refine lv_aload_n hx hb d_Mod_rankAll_10 rfl (lv_at hl 0 rfl) ?_
        refine gf_Mod_62 X hW  d_Mod_rankAll_11 ?_
        refine lv_iload_n hx hb d_Mod_rankAll_14 rfl (lv_at hl 2 rfl) ?_
        refine lv_ldc2 (v := 1000000) hx hb hown (hts _ w_Mod_constl_169) d_Mod_rankAll_15 ?_
        refine gy_lsM (w := 1000000) (k := 0) hx hb hK hW hS (by decide) (vp_in_nI (by omega) (by decide)) d_Mod_rankAll_18 (fun H locs hW hS => ?_)
        have hW : gW g A ad np u (a, x1, guL o1 0 (nI p1).toNatClampNeg 1000000) H := hW
        rw [nI_clamp (by omega)] at hW
        obtain ⟨o2, ho2⟩ : ∃ z, z = guL o1 0 p1 1000000 := ⟨_, rfl⟩
        have hr2 : ∀ q, q < p1 + 1 → o2 0 q = 1000000 := fun q hq => by rw [ho2, guL_self]; by_cases c : q = p1; subst c; exact pk_uLs; rw [pk_uLn c]; exact hr1 q (by omega)
        refine lv_iconst (v := 0) hx hb d_Mod_rankAll_19 (by decide) ?_
        refine lv_istore_n hx hb d_Mod_rankAll_20 rfl hl (by decide) rfl (fun ls hl => ?_)
        have hl : lv_has ls 5 [(3, .int 0), (0, .ref (ad 74)), (1, .int (nI rr)), (2, .int (nI p1))] := hl
        have lp21 : ∀ (fuel : Nat) (k : Nat) (x2 : gA) (ls : Array Slot) (H : Heap) (locs : List Loc), (k ≤ lk) → (∀ q, q < p1 → ∀ k, k < lkN a q → x2 0 (5 * q + k) = ld a hp q k) → (∀ j, j < k → x2 0 (5 * p1 + j) = ld a hp p1 j) → lk - k < fuel → lv_has ls 5 [(0, .ref (ad 74)), (1, .int (nI rr)), (2, .int (nI p1)), (3, .int (nI k))] → gW g A ad np u (a, x2, o2) H → va_S A s.heap H locs → W p l e R s m args below meth c H locs 0 0 Q (F0 m 21 ls []) := by
          intro fuel
          induction fuel with
          | zero => intro k x2 ls H locs _ _ _ hfu; exact absurd hfu (Nat.not_lt_zero _)
          | succ fuel ih21 =>
            intro k x2 ls H locs hk hx2 hx3 hfu hl hW hS
            refine lv_iload_n hx hb d_Mod_rankAll_21 rfl (lv_at hl 3 rfl) ?_
            refine lv_aload_n hx hb d_Mod_rankAll_22 rfl (lv_at hl 0 rfl) ?_
            refine gf_Mod_28 X hW  d_Mod_rankAll_23 ?_
            refine lv_iload_n hx hb d_Mod_rankAll_26 rfl (lv_at hl 2 rfl) ?_
            refine gy_ia (z := nI lk) (q := (2, 7, p1)) hx hb hK hW (by omega) rfl (show vp_in _ 32 from vp_in_nI (by omega) (by decide)) (gv_2_7 (by omega)) ((gi_2_7 _).trans (by rw [nI_clamp (by omega)])) hlk d_Mod_rankAll_27 ?_
            refine lv_icmp_ge (tgt := 79) hx hb d_Mod_rankAll_28 (by decide) (fun h28 => ?_) (fun h28 => ?_)
            · -- 28 t
              have h28 : lk ≤ k := (nI_leI (a := lk) (b := k) (by omega) (by omega)).mp h28
              refine lv_iinc (v := nI (p1 + 1)) (k := 2) hx hb d_Mod_rankAll_79 hl rfl (nI_inc p1) (by decide) rfl (fun ls hl => ?_)
              have hl : lv_has ls 5 [(2, .int (nI (p1 + 1))), (0, .ref (ad 74)), (1, .int (nI rr)), (3, .int (nI k))] := hl
              refine lv_goto (tgt := 2) hx hb d_Mod_rankAll_82 (by decide) ?_
              exact ih2 (p1 + 1) x2 o2 _ _ _ (by omega) hr2 (fun q hq k hk => by by_cases c : q = p1; subst c; exact hx3 k (by omega); exact hx2 q (by omega) k hk) (by omega) (lv_sub hl [1, 2, 0] rfl) hW hS
            · -- 28 f
              have h28 : k < lk := Nat.lt_of_not_le fun q => h28 ((nI_leI (a := lk) (b := k) (by omega) (by omega)).mpr q)
              obtain ⟨q7, hq7, e7⟩ := hll k (by omega)
              refine lv_aload_n hx hb d_Mod_rankAll_31 rfl (lv_at hl 0 rfl) ?_
              refine lv_aload_n hx hb d_Mod_rankAll_32 rfl (lv_at hl 0 rfl) ?_
              refine gf_Mod_25 X hW  d_Mod_rankAll_33 ?_
              refine lv_iconst (v := 5) hx hb d_Mod_rankAll_36 (by decide) ?_
              refine lv_iload_n hx hb d_Mod_rankAll_37 rfl (lv_at hl 2 rfl) ?_
              refine lv_imul hx hb d_Mod_rankAll_38 ?_
              rw [show 5 * (nI p1) = nI (5 * p1) from pk_mul 5 p1]
              refine lv_iload_n hx hb d_Mod_rankAll_39 rfl (lv_at hl 3 rfl) ?_
              refine lv_iadd hx hb d_Mod_rankAll_40 ?_
              rw [show (nI (5 * p1)) + (nI k) = nI (5 * p1 + k) from nI_add _ _]
              refine gy_ia (z := nI q7) (q := (2, 6, (5 * p1 + k))) hx hb hK hW (by omega) rfl (show vp_in _ 160 from vp_in_nI (by omega) (by decide)) (gv_2_6 (by omega)) ((gi_2_6 _).trans (by rw [nI_clamp (by omega)])) (by unfold gr; exact e7) d_Mod_rankAll_41 ?_
              refine lv_iconst (v := 0) hx hb d_Mod_rankAll_42 (by decide) ?_
              refine gc_iV (As := [.int (nI q7), .int 0]) (b := ad 74) (rest := []) X cw_Mod_123 (C_Mod_chase0 l (u := u) (a := a) (x := x2) (o := o2) (nm := nm) (P := q7) hw hhp hp4 hq7) hW hS (gW_recv (ci := 7) (fs := gf7 ad) hK hW (by omega) (fun σ τ => ge_7 rfl σ τ) (r := (R_Mod, F_Mod, 37)) rfl) ⟨Nat.le_trans (Nat.le_of_ble_eq_true rfl) hR.1, Nat.le_trans (Nat.le_of_ble_eq_true rfl) hR.2⟩ rfl hl.1 rfl (Nat.le_of_ble_eq_true rfl) d_Mod_rankAll_43 ⟨Nat.zero_le _, Nat.zero_le _⟩ (fun gv9 t H locs hp hW hS => ?_)
              obtain ⟨rfl, hg9⟩ := hp
              have hldk : ld a hp p1 k = rDo a gv9 := by unfold ld; rw [e7, nI_clamp (by omega), hg9]
              have hW : gW g A ad np u (a, x2, o2) H := hW
              refine lv_istore hx hb d_Mod_rankAll_46 hl (by decide) rfl (fun ls hl => ?_)
              have hl : lv_has ls 5 [(4, .int gv9), (0, .ref (ad 74)), (1, .int (nI rr)), (2, .int (nI p1)), (3, .int (nI k))] := hl
              refine lv_aload_n hx hb d_Mod_rankAll_48 rfl (lv_at hl 1 rfl) ?_
              refine gf_Mod_59 X hW  d_Mod_rankAll_49 ?_
              refine lv_iconst (v := 5) hx hb d_Mod_rankAll_52 (by decide) ?_
              refine lv_iload_n hx hb d_Mod_rankAll_53 rfl (lv_at hl 3 rfl) ?_
              refine lv_imul hx hb d_Mod_rankAll_54 ?_
              rw [show 5 * (nI p1) = nI (5 * p1) from pk_mul 5 p1]
              refine lv_iload_n hx hb d_Mod_rankAll_55 rfl (lv_at hl 4 rfl) ?_
              refine lv_iadd hx hb d_Mod_rankAll_56 ?_
              rw [show (nI (5 * p1)) + (nI k) = nI (5 * p1 + k) from nI_add _ _]
              refine lv_iload hx hb d_Mod_rankAll_57 (lv_at hl 0 rfl) ?_
              refine lv_if_ge (tgt := 66) hx hb d_Mod_rankAll_59 (by decide) (fun h59 => ?_) (fun h59 => ?_)
              · -- 59 t
                refine lv_aload_n hx hb d_Mod_rankAll_66 rfl (lv_at hl 1 rfl) ?_
                refine lv_iload hx hb d_Mod_rankAll_67 (lv_at hl 0 rfl) ?_
                refine gc_iV (As := [.int gv9]) (b := ad 74) (rest := [.int (nI (5 * p1 + k)), .ref (ad 91)]) X cw_Mod_166 (C_Mod_document l (u := u) (a := a) (x := x2) (o := o2) (nm := nm) (w1 := gv9) hw hng hd) hW hS (gW_recv (ci := 7) (fs := gf7 ad) hK hW (by omega) (fun σ τ => ge_7 rfl σ τ) (r := (R_Mod, F_Mod, 37)) rfl) ⟨Nat.le_trans (Nat.le_of_ble_eq_true rfl) hR.1, Nat.le_trans (Nat.le_of_ble_eq_true rfl) hR.2⟩ rfl hl.1 rfl (Nat.le_of_ble_eq_true rfl) d_Mod_rankAll_69 ⟨Nat.zero_le _, Nat.zero_le _⟩ (fun r t H locs hp hW hS => ?_)
                obtain ⟨rfl, hr9⟩ := hp
                unfold rDc at hr9
                rw [if_neg hon] at hr9
                subst hr9
                have hW : gW g A ad np u (a, x2, o2) H := hW
                refine W.eq (g2 := F0 m 72 ls [.int (ld a hp p1 k), .int (nI (5 * p1 + k)), .ref (ad 91)]) (by first | rw [hldk, rDo_m1 hng hd hnp (Int32.not_le.mp h59)] | rw [hldk]) ?_
                refine gy_is (z := ld a hp p1 k) (q := (3, 0, (5 * p1 + k))) hx hb hK hW hS (by omega) rfl (show vp_in _ 160 from vp_in_nI (by omega) (by decide)) (gv_3_0 (by omega)) ((gi_3_0 _).trans (by rw [nI_clamp (by omega)])) d_Mod_rankAll_72 (fun H locs hW hS => ?_)
                have hW : gW g A ad np u (a, gu x2 0 (5 * p1 + k) (ld a hp p1 k), o2) H := hW
                refine lv_iinc (v := nI (k + 1)) (k := 4) hx hb d_Mod_rankAll_73 hl rfl (nI_inc k) (by decide) rfl (fun ls hl => ?_)
                have hl : lv_has ls 5 [(3, .int (nI (k + 1))), (4, .int gv9), (0, .ref (ad 74)), (1, .int (nI rr)), (2, .int (nI p1))] := hl
                refine lv_goto (tgt := 21) hx hb d_Mod_rankAll_76 (by decide) ?_
                exact ih21 (k + 1) (gu x2 0 (5 * p1 + k) (ld a hp p1 k)) _ _ _ (by omega) (fun q hq j hj => by rw [gu_off (fun z => by have := hlk5s q (by omega); omega)]; exact hx2 q hq j hj) (fun j hj => by by_cases c : j = k; subst c; exact gu_hit _ _ _ _; rw [gu_off (fun z => by omega)]; exact hx3 j (by omega)) (by omega) (lv_sub hl [2, 3, 4, 0] rfl) hW hS
              · -- 59 f
                refine lv_iconst (v := (-1)) hx hb d_Mod_rankAll_62 (by decide) ?_
                refine lv_goto (tgt := 72) hx hb d_Mod_rankAll_63 (by decide) ?_
                refine W.eq (g2 := F0 m 72 ls [.int (ld a hp p1 k), .int (nI (5 * p1 + k)), .ref (ad 91)]) (by first | rw [hldk, rDo_m1 hng hd hnp (Int32.not_le.mp h59)] | rw [hldk]) ?_
                refine gy_is (z := ld a hp p1 k) (q := (3, 0, (5 * p1 + k))) hx hb hK hW hS (by omega) rfl (show vp_in _ 160 from vp_in_nI (by omega) (by decide)) (gv_3_0 (by omega)) ((gi_3_0 _).trans (by rw [nI_clamp (by omega)])) d_Mod_rankAll_72 (fun H locs hW hS => ?_)
                have hW : gW g A ad np u (a, gu x2 0 (5 * p1 + k) (ld a hp p1 k), o2) H := hW
                refine lv_iinc (v := nI (k + 1)) (k := 4) hx hb d_Mod_rankAll_73 hl rfl (nI_inc k) (by decide) rfl (fun ls hl => ?_)
                have hl : lv_has ls 5 [(3, .int (nI (k + 1))), (4, .int gv9), (0, .ref (ad 74)), (1, .int (nI rr)), (2, .int (nI p1))] := hl
                refine lv_goto (tgt := 21) hx hb d_Mod_rankAll_76 (by decide) ?_
                exact ih21 (k + 1) (gu x2 0 (5 * p1 + k) (ld a hp p1 k)) _ _ _ (by omega) (fun q hq j hj => by rw [gu_off (fun z => by have := hlk5s q (by omega); omega)]; exact hx2 q hq j hj) (fun j hj => by by_cases c : j = k; subst c; exact gu_hit _ _ _ _; rw [gu_off (fun z => by omega)]; exact hx3 j (by omega)) (by omega) (lv_sub hl [2, 3, 4, 0] rfl) hW hS
        rw [← ho2] at hW
        exact lp21 _ 0 x1 _ _ _ (Nat.zero_le _) hx1 (fun q h => absurd h (Nat.not_lt_zero _)) (Nat.lt_succ_self _) (lv_sub hl [1, 2, 3, 0] rfl) hW hS
  exact lp2 _ 0 x o _ _ _ (Nat.zero_le _) (fun q h => absurd h (Nat.not_lt_zero _)) (fun q h => absurd h (Nat.not_lt_zero _)) (Nat.lt_succ_self _) (lv_sub hl [1, 2, 0] rfl) hW hS
theorem C_Mod_rankAll (l : Launch) {g : gG} {A : Nat → Prop} {ad : Nat → Nat} {np : Nat} {u : gS} {a x : gA} {o : gL} {nm ng hp rr : Nat} (hw : WFw nm a) (hng : a 0 25 = nI ng) (hd : dst (a 15) ng nm) (hon : ¬ a 0 13 = 0) (hhp : a 0 15 = nI hp) (hp4 : hp ≤ 4) (hrr : rr ≤ 12) : CtV l y_Mod_rankAll b_Mod_rankAll 5 4 [.ref (ad 74), .int (nI rr)] g A ad np u (a, x, o) (fun t => ∃ x' o', t = (u, (a, x', o')) ∧ ∀ p, p < nm → o' 0 p = rkF a hp rr p) := mkV (by decide) rfl (Nat.le_of_ble_eq_true rfl) (B_Mod_rankAll l hw hng hd hon hhp hp4 hrr)

