/-! specs_mod2 -/
set_option maxHeartbeats 400000 in
set_option maxRecDepth 20000 in
theorem B_Mod_handle (l : Launch) {g : gG} {A : Nat → Prop} {ad : Nat → Nat} {np : Nat} {u : gS} {a x : gA} {o : gL} {nm : Nat} (hw : WFw nm a) (hg : WFg nm a) (hlt : cn a 20 < cn a 21) : BdV l b_Mod_handle 5 R_Mod 3 [.ref (ad 74)] g A ad np u (a, x, o) (fun t => t = (u, (sH a, x, o))) := by
  intro p e R s m args below meth c Q ls X hW hS hR hl hret
  have hx := X.1.1
  have hb := X.1.2.1
  have hml := X.1.2.2.1
  have hown := X.1.2.2.2.1
  have hts := X.1.2.2.2.2
  have hK := X.2.1
  have hl : lv_has ls 5 [(0, .ref (ad 74))] := hl
  have hnp := hw.1
  have hpc := hw.2.1
  obtain ⟨hd, nq, nf, ng, mh, mq, mf, mg, hp0, e20, e21, e23, e25, e29, e30, e31, e32, e33, e15, hp4, hdq, mhd, mhq, mqq, mff, mgg, d12, d14, d15⟩ := hg
  have hnq := dst_le d12 hnp
  have hng := dst_le d15 hnp
  rw [cn_of e20 (by omega), cn_of e21 (by omega)] at hlt
  obtain ⟨P, hP, eP⟩ := d12.1 hd hlt
  have hw1 : WFw nm (gu a 0 20 (nI (hd + 1))) := WFw_wk (wk_sc (by decide)) hw
  refine lv_aload_n hx hb d_Mod_handle_0 rfl (lv_at hl 0 rfl) ?_
  refine gf_Mod_44 X hW  d_Mod_handle_1 ?_
  refine lv_aload_n hx hb d_Mod_handle_4 rfl (lv_at hl 0 rfl) ?_
  refine gf_Mod_120 (z := nI hd) X hW  (gv_2_0_20 _) rfl e20 d_Mod_handle_5 ?_
  refine gy_ia (z := nI P) (q := (2, 12, hd)) hx hb hK hW (by omega) rfl (show vp_in _ 32 from vp_in_nI (by omega) (by decide)) (gv_2_12 (by omega)) ((gi_2_12 _).trans (by rw [nI_clamp (by omega)])) eP d_Mod_handle_8 ?_
  refine lv_istore_n hx hb d_Mod_handle_9 rfl hl (by decide) rfl (fun ls hl => ?_)
  have hl : lv_has ls 5 [(1, .int (nI P)), (0, .ref (ad 74))] := hl
  refine lv_aload_n hx hb d_Mod_handle_10 rfl (lv_at hl 1 rfl) ?_
  refine gf_Mod_47 X hW  d_Mod_handle_11 ?_
  refine lv_aload_n hx hb d_Mod_handle_14 rfl (lv_at hl 1 rfl) ?_
  refine gf_Mod_120 (z := nI hd) X hW  (gv_2_0_20 _) rfl e20 d_Mod_handle_15 ?_
  refine gy_ia (z := a 13 hd) (q := (2, 13, hd)) hx hb hK hW (by omega) rfl (show vp_in _ 32 from vp_in_nI (by omega) (by decide)) (gv_2_13 (by omega)) ((gi_2_13 _).trans (by rw [nI_clamp (by omega)])) rfl d_Mod_handle_18 ?_
  refine lv_istore_n hx hb d_Mod_handle_19 rfl hl (by decide) rfl (fun ls hl => ?_)
  have hl : lv_has ls 5 [(2, .int (a 13 hd)), (1, .int (nI P)), (0, .ref (ad 74))] := hl
  refine lv_aload_n hx hb d_Mod_handle_20 rfl (lv_at hl 2 rfl) ?_
  refine lv_aload_n hx hb d_Mod_handle_21 rfl (lv_at hl 2 rfl) ?_
  refine gf_Mod_120 (z := nI hd) X hW  (gv_2_0_20 _) rfl e20 d_Mod_handle_22 ?_
  refine lv_iconst (v := 1) hx hb d_Mod_handle_25 (by decide) ?_
  refine lv_iadd hx hb d_Mod_handle_26 ?_
  rw [show (nI hd) + 1 = nI (hd + 1) from nI_1 hd]
  refine pf_Mod_120 (z := nI (hd + 1)) X hW hS  (gv_2_0_20 _) rfl rfl rfl d_Mod_handle_27 (fun H locs hW hS => ?_)
  have hW : gW g A ad np u (gu a 0 20 (nI (hd + 1)), x, o) H := hW
  refine lv_aload_n hx hb d_Mod_handle_30 rfl (lv_at hl 2 rfl) ?_
  refine lv_iload_n hx hb d_Mod_handle_31 rfl (lv_at hl 1 rfl) ?_
  refine lv_iconst (v := 1) hx hb d_Mod_handle_32 (by decide) ?_
  refine gc_iV (As := [.int (nI P), .int 1]) (b := ad 74) (rest := []) X cw_Mod_123 (C_Mod_chase1 l (u := u) (a := gu a 0 20 (nI (hd + 1))) (x := x) (o := o) (nm := nm) (P := P) hw1 e15 hp4 hP e23 d14) hW hS (gW_recv (ci := 7) (fs := gf7 ad) hK hW (by omega) (fun σ τ => ge_7 rfl σ τ) (r := (R_Mod, F_Mod, 37)) rfl) ⟨Nat.le_trans (Nat.le_of_ble_eq_true rfl) hR.1, Nat.le_trans (Nat.le_of_ble_eq_true rfl) hR.2⟩ rfl hl.1 rfl (Nat.le_of_ble_eq_true rfl) d_Mod_handle_33 ⟨Nat.zero_le _, Nat.zero_le _⟩ (fun qv t H locs hp hW hS => ?_)
  obtain ⟨rfl, hqv⟩ := hp
  obtain ⟨a2, ha2⟩ : ∃ z, z = sF2 (hp0 + 1) (gu a 0 20 (nI (hd + 1))) P := ⟨_, rfl⟩
  rw [← ha2] at hW
  have hw2 : WFw nm a2 := by rw [ha2]; exact WFw_wk (wk_sF2 _ _ _) hw1
  have s2 : ∀ j, j ≠ 26 → j ≠ 23 → j ≠ 28 → a2 0 j = gu a 0 20 (nI (hd + 1)) 0 j := fun j p1 p2 p3 => by rw [ha2]; exact sF2_sc _ _ _ p1 p2 p3
  have r2 : ∀ r, r ≠ 0 → r ≠ 14 → r ≠ 16 → a2 r = a r := fun r p1 p2 p3 => by rw [ha2, sF2_row _ _ _ p1 p2 p3]; exact gu_ne p1
  have g21 : a2 0 21 = nI nq := (s2 21 (by decide) (by decide) (by decide)).trans e21
  have g25 : a2 0 25 = nI ng := (s2 25 (by decide) (by decide) (by decide)).trans e25
  have d12b : dst (a2 12) nq nm := by rw [r2 12 (by decide) (by decide) (by decide)]; exact d12
  have hcn : cn a2 25 = ng := cn_of g25 (by omega)
  have hsH : sH a = sH4 (sH3 a2 qv (a 13 hd)) := by unfold sH; rw [cn_of e20 (by omega), cn_of e15 (by omega), eP, nI_clamp (by omega), ← ha2, ← hqv]
  have hqp := sC2_pg hw1 (hp0 + 1) P hP
  rw [← hqv] at hqp
  have hW : gW g A ad np u (a2, x, o) H := hW
  refine lv_istore_n hx hb d_Mod_handle_36 rfl hl (by decide) rfl (fun ls hl => ?_)
  have hl : lv_has ls 5 [(3, .int qv), (2, .int (a 13 hd)), (1, .int (nI P)), (0, .ref (ad 74))] := hl
  have jn115 : ∀ (a3 : gA) (ls : Array Slot) (H : Heap) (locs : List Loc), (a3 = sH3 a2 qv (a 13 hd)) → lv_has ls 5 [(0, .ref (ad 74))] → gW g A ad np u (a3, x, o) H → va_S A s.heap H locs → W p l e R s m args below meth c H locs 0 0 Q (F0 m 115 ls []) := by
    intro a3 ls H locs ha3 hl hW hS
    rw [← ha3] at hsH
    refine lv_aload_n hx hb d_Mod_handle_115 rfl (lv_at hl 0 rfl) ?_
    refine lv_aload_n hx hb d_Mod_handle_116 rfl (lv_at hl 0 rfl) ?_
    refine gf_Mod_138 (z := a3 0 33) X hW  (gv_2_0_33 _) rfl rfl d_Mod_handle_117 ?_
    refine lv_iconst (v := 1) hx hb d_Mod_handle_120 (by decide) ?_
    refine lv_iadd hx hb d_Mod_handle_121 ?_
    refine pf_Mod_138 (z := (a3 0 33) + 1) X hW hS  (gv_2_0_33 _) rfl rfl rfl d_Mod_handle_122 (fun H locs hW hS => ?_)
    have hW : gW g A ad np u (gu a3 0 33 ((a3 0 33) + 1), x, o) H := hW
    refine lv_aload_n hx hb d_Mod_handle_125 rfl (lv_at hl 0 rfl) ?_
    refine gf_Mod_138 (z := a3 0 33 + 1) X hW  (gv_2_0_33 _) rfl rfl d_Mod_handle_126 ?_
    refine lv_aload_n hx hb d_Mod_handle_129 rfl (lv_at hl 0 rfl) ?_
    refine gf_Mod_141 (z := a3 0 17) X hW  (gv_2_0_17 _) rfl rfl d_Mod_handle_130 ?_
    refine lv_icmp_ne (tgt := 140) hx hb d_Mod_handle_133 (by decide) (fun h133 => ?_) (fun h133 => ?_)
    · -- 133 t
      refine hret (u, (gu a3 0 33 ((a3 0 33) + 1), x, o)) _ _ _ _ ?_ hW hS d_Mod_handle_140
      rw [hsH]; unfold sH4; rw [if_neg h133]
    · -- 133 f
      refine lv_aload_n hx hb d_Mod_handle_136 rfl (lv_at hl 0 rfl) ?_
      refine gc_vV (As := []) (b := ad 74) (rest := []) X cw_Mod_144 (C_Mod_mark l (u := u) (a := gu a3 0 33 ((a3 0 33) + 1)) (x := x) (o := o)) hW hS (gW_recv (ci := 7) (fs := gf7 ad) hK hW (by omega) (fun σ τ => ge_7 rfl σ τ) (r := (R_Mod, F_Mod, 37)) rfl) ⟨Nat.le_trans (Nat.le_of_ble_eq_true rfl) hR.1, Nat.le_trans (Nat.le_of_ble_eq_true rfl) hR.2⟩ rfl hl.1 rfl (Nat.le_of_ble_eq_true rfl) d_Mod_handle_137 ⟨Nat.zero_le _, Nat.zero_le _⟩ (fun t H locs hp hW hS => ?_)
      subst hp
      have hW : gW g A ad np u (sMk (gu a3 0 33 (a3 0 33 + 1)), x, o) H := hW
      refine hret (u, (sMk (gu a3 0 33 (a3 0 33 + 1)), x, o)) _ _ _ _ ?_ hW hS d_Mod_handle_140
      rw [hsH]; unfold sH4; rw [if_pos h133]
  refine lv_iload_n hx hb d_Mod_handle_37 rfl (lv_at hl 0 rfl) ?_
  refine lv_if_lt (tgt := 115) hx hb d_Mod_handle_38 (by decide) (fun h38 => ?_) (fun h38 => ?_)
  · -- 38 t
    have hqm : qv = -1 := hqp.elim id (fun ⟨q, h1, h2⟩ => absurd h38 (by rw [h2]; exact nI_pos (by omega)))
    exact jn115 a2 _ _ _ (by unfold sH3; rw [hcn, if_pos (by first | exact Or.inl hqm | exact Or.inr h46)]) (lv_sub hl [3] rfl) hW hS
  · -- 38 f
    obtain ⟨Q1, hQ1, hqQ⟩ : ∃ Q1, Q1 < nm ∧ qv = nI Q1 := hqp.elim (fun e => absurd (show qv < 0 by rw [e]; decide) h38) id
    subst hqQ
    refine lv_aload_n hx hb d_Mod_handle_41 rfl (lv_at hl 3 rfl) ?_
    refine lv_iload_n hx hb d_Mod_handle_42 rfl (lv_at hl 0 rfl) ?_
    refine gc_iV (As := [.int (nI Q1)]) (b := ad 74) (rest := []) X cw_Mod_127 (C_Mod_placeInCorpus l (u := u) (a := a2) (x := x) (o := o) (w1 := nI Q1) g25 (by omega)) hW hS (gW_recv (ci := 7) (fs := gf7 ad) hK hW (by omega) (fun σ τ => ge_7 rfl σ τ) (r := (R_Mod, F_Mod, 37)) rfl) ⟨Nat.le_trans (Nat.le_of_ble_eq_true rfl) hR.1, Nat.le_trans (Nat.le_of_ble_eq_true rfl) hR.2⟩ rfl hl.1 rfl (Nat.le_of_ble_eq_true rfl) d_Mod_handle_43 ⟨Nat.zero_le _, Nat.zero_le _⟩ (fun pc9 t H locs hp hW hS => ?_)
    obtain ⟨rfl, hr1, hr2⟩ := hp
    have hW : gW g A ad np u (a2, x, o) H := hW
    refine lv_if_ge (tgt := 115) hx hb d_Mod_handle_46 (by decide) (fun h46 => ?_) (fun h46 => ?_)
    · -- 46 t
      have h46 : pEq (a2 15) (nI Q1) ng = true := by
        cases e : pEq (a2 15) (nI Q1) ng with
        | true => rfl
        | false => exact absurd h46 (by rw [hr2 e]; decide)
      exact jn115 a2 _ _ _ (by unfold sH3; rw [hcn, if_pos (by first | exact Or.inl hqm | exact Or.inr h46)]) (lv_sub hl [3] rfl) hW hS
    · -- 46 f
      have h46 : pEq (a2 15) (nI Q1) ng = false := by
        cases e : pEq (a2 15) (nI Q1) ng with
        | false => rfl
        | true => exact absurd (Int32.not_lt.mp (hr1 e)) h46
      have d15b : dst (a2 15) ng nm := by rw [r2 15 (by decide) (by decide) (by decide)]; exact d15
      have hr32 : ng < 32 := dst_room d15b hQ1 rfl h46 hnp
      obtain ⟨lk, hlk5, hlk, hll⟩ := (hw2.2.2.1 Q1 hQ1).2.2.2.2
      refine lv_aload_n hx hb d_Mod_handle_49 rfl (lv_at hl 3 rfl) ?_
      refine gf_Mod_53 X hW  d_Mod_handle_50 ?_
      refine lv_aload_n hx hb d_Mod_handle_53 rfl (lv_at hl 3 rfl) ?_
      refine gf_Mod_114 (z := nI ng) X hW  (gv_2_0_25 _) rfl g25 d_Mod_handle_54 ?_
      refine lv_iload_n hx hb d_Mod_handle_57 rfl (lv_at hl 0 rfl) ?_
      refine gy_is (z := nI Q1) (q := (2, 15, ng)) hx hb hK hW hS (by omega) rfl (show vp_in _ 32 from vp_in_nI (by omega) (by decide)) (gv_2_15 (by omega)) ((gi_2_15 _).trans (by rw [nI_clamp (by omega)])) d_Mod_handle_58 (fun H locs hW hS => ?_)
      have hW : gW g A ad np u (gu a2 15 ng (nI Q1), x, o) H := hW
      refine lv_aload_n hx hb d_Mod_handle_59 rfl (lv_at hl 3 rfl) ?_
      refine lv_aload_n hx hb d_Mod_handle_60 rfl (lv_at hl 3 rfl) ?_
      refine gf_Mod_114 (z := nI ng) X hW  (gv_2_0_25 _) rfl g25 d_Mod_handle_61 ?_
      refine lv_iconst (v := 1) hx hb d_Mod_handle_64 (by decide) ?_
      refine lv_iadd hx hb d_Mod_handle_65 ?_
      rw [show (nI ng) + 1 = nI (ng + 1) from nI_1 ng]
      refine pf_Mod_114 (z := nI (ng + 1)) X hW hS  (gv_2_0_25 _) rfl rfl rfl d_Mod_handle_66 (fun H locs hW hS => ?_)
      have hW : gW g A ad np u (gu (gu a2 15 ng (nI Q1)) 0 25 (nI (ng + 1)), x, o) H := hW
      refine lv_iconst (v := 0) hx hb d_Mod_handle_69 (by decide) ?_
      refine lv_istore hx hb d_Mod_handle_70 hl (by decide) rfl (fun ls hl => ?_)
      have hl : lv_has ls 5 [(4, .int 0), (3, .int (nI Q1)), (2, .int (a 13 hd)), (1, .int (nI P)), (0, .ref (ad 74))] := hl
      have lp72 : ∀ (fuel : Nat) (i : Nat) (ls : Array Slot) (H : Heap) (locs : List Loc), (i ≤ lk) → (0 < i → a 13 hd < a2 0 14) → lk - i < fuel → lv_has ls 5 [(0, .ref (ad 74)), (2, .int (a 13 hd)), (3, .int (nI Q1)), (4, .int (nI i))] → gW g A ad np u (sQA (fun i => a2 6 (5 * Q1 + i)) (a 13 hd + 1) (gu (gu a2 15 ng (nI Q1)) 0 25 (nI (ng + 1))) i, x, o) H → va_S A s.heap H locs → W p l e R s m args below meth c H locs 0 0 Q (F0 m 72 ls []) := by
        intro fuel
        induction fuel with
        | zero => intro i ls H locs _ _ hfu; exact absurd hfu (Nat.not_lt_zero _)
        | succ fuel ih72 =>
          intro i ls H locs hi hdl hfu hl hW hS
          refine lv_iload hx hb d_Mod_handle_72 (lv_at hl 3 rfl) ?_
          refine lv_aload_n hx hb d_Mod_handle_74 rfl (lv_at hl 0 rfl) ?_
          refine gf_Mod_28 X hW  d_Mod_handle_75 ?_
          refine lv_iload_n hx hb d_Mod_handle_78 rfl (lv_at hl 2 rfl) ?_
          refine gy_ia (z := nI lk) (q := (2, 7, Q1)) hx hb hK hW (by omega) rfl (show vp_in _ 32 from vp_in_nI (by omega) (by decide)) (gv_2_7 (by omega)) ((gi_2_7 _).trans (by rw [nI_clamp (by omega)])) ((qk_sQA _ _ _ _ 7 Q1 (by omega)).trans hlk) d_Mod_handle_79 ?_
          refine lv_icmp_ge (tgt := 115) hx hb d_Mod_handle_80 (by decide) (fun h80 => ?_) (fun h80 => ?_)
          · -- 80 t
            have h80 : lk ≤ i := (nI_leI (a := lk) (b := i) (by omega) (by omega)).mp h80
            exact jn115 (sQA (fun i => a2 6 (5 * Q1 + i)) (a 13 hd + 1) (gu (gu a2 15 ng (nI Q1)) 0 25 (nI (ng + 1))) i) _ _ _ (by
          have hneg : ¬ (nI Q1 = -1 ∨ pEq (a2 15) (nI Q1) ng = true) := fun q => q.elim (nI_neg (by omega) (by decide)) (fun e => by rw [h46] at e; cases e)
          unfold sH3
          rw [hcn, if_neg hneg, nI_clamp (by omega), hlk, nI_clamp (by omega)]
          unfold sHc
          rw [hcn]
          by_cases hc : a 13 hd < a2 0 14
          · rw [if_pos hc, show lk = i by first | omega | exact absurd hc (Int32.not_lt.mpr h88)]
          · rw [if_neg hc, show i = 0 from Nat.eq_zero_of_not_pos (fun q => hc (hdl q))]
            rfl) (lv_sub hl [0] rfl) hW hS
          · -- 80 f
            have h80 : i < lk := Nat.lt_of_not_le fun q => h80 ((nI_leI (a := lk) (b := i) (by omega) (by omega)).mpr q)
            refine lv_iload_n hx hb d_Mod_handle_83 rfl (lv_at hl 1 rfl) ?_
            refine lv_aload_n hx hb d_Mod_handle_84 rfl (lv_at hl 0 rfl) ?_
            refine gf_Mod_131 (z := a2 0 14) X hW  (gv_2_0_14 _) rfl (qk_sQA _ _ _ _ 0 14 (by omega)) d_Mod_handle_85 ?_
            refine lv_icmp_ge (tgt := 115) hx hb d_Mod_handle_88 (by decide) (fun h88 => ?_) (fun h88 => ?_)
            · -- 88 t
              exact jn115 (sQA (fun i => a2 6 (5 * Q1 + i)) (a 13 hd + 1) (gu (gu a2 15 ng (nI Q1)) 0 25 (nI (ng + 1))) i) _ _ _ (by
          have hneg : ¬ (nI Q1 = -1 ∨ pEq (a2 15) (nI Q1) ng = true) := fun q => q.elim (nI_neg (by omega) (by decide)) (fun e => by rw [h46] at e; cases e)
          unfold sH3
          rw [hcn, if_neg hneg, nI_clamp (by omega), hlk, nI_clamp (by omega)]
          unfold sHc
          rw [hcn]
          by_cases hc : a 13 hd < a2 0 14
          · rw [if_pos hc, show lk = i by first | omega | exact absurd hc (Int32.not_lt.mpr h88)]
          · rw [if_neg hc, show i = 0 from Nat.eq_zero_of_not_pos (fun q => hc (hdl q))]
            rfl) (lv_sub hl [0] rfl) hW hS
            · -- 88 f
              refine lv_aload_n hx hb d_Mod_handle_91 rfl (lv_at hl 0 rfl) ?_
              refine lv_aload_n hx hb d_Mod_handle_92 rfl (lv_at hl 0 rfl) ?_
              refine gf_Mod_25 X hW  d_Mod_handle_93 ?_
              refine lv_iconst (v := 5) hx hb d_Mod_handle_96 (by decide) ?_
              refine lv_iload_n hx hb d_Mod_handle_97 rfl (lv_at hl 2 rfl) ?_
              refine lv_imul hx hb d_Mod_handle_98 ?_
              rw [show 5 * (nI Q1) = nI (5 * Q1) from pk_mul 5 Q1]
              refine lv_iload hx hb d_Mod_handle_99 (lv_at hl 3 rfl) ?_
              refine lv_iadd hx hb d_Mod_handle_101 ?_
              rw [show (nI (5 * Q1)) + (nI i) = nI (5 * Q1 + i) from nI_add _ _]
              refine gy_ia (z := a2 6 (5 * Q1 + i)) (q := (2, 6, (5 * Q1 + i))) hx hb hK hW (by omega) rfl (show vp_in _ 160 from vp_in_nI (by omega) (by decide)) (gv_2_6 (by omega)) ((gi_2_6 _).trans (by rw [nI_clamp (by omega)])) (qk_sQA _ _ _ _ 6 _ (by omega)) d_Mod_handle_102 ?_
              refine lv_iload_n hx hb d_Mod_handle_103 rfl (lv_at hl 1 rfl) ?_
              refine lv_iconst (v := 1) hx hb d_Mod_handle_104 (by decide) ?_
              refine lv_iadd hx hb d_Mod_handle_105 ?_
              obtain ⟨nq1, -, hq1, hd1⟩ := sQA_dst (f := (fun i => a2 6 (5 * Q1 + i))) (d := a 13 hd + 1) (a := gu (gu a2 15 ng (nI Q1)) 0 25 (nI (ng + 1))) (nq := nq) (np := nm) g21 d12b hnp i (fun j hj => hll j (by omega))
              obtain ⟨q7, hq7, e7⟩ := hll i (by omega)
              refine gc_vV (As := [.int (a2 6 (5 * Q1 + i)), .int ((a 13 hd) + 1)]) (b := ad 74) (rest := []) X cw_Mod_134 (C_Mod_queue l (u := u) (a := sQA (fun i => a2 6 (5 * Q1 + i)) (a 13 hd + 1) (gu (gu a2 15 ng (nI Q1)) 0 25 (nI (ng + 1))) i) (x := x) (o := o) (nm := nm) (nq := nq1) (q := q7) hnp hq1 hd1 hq7 e7) hW hS (gW_recv (ci := 7) (fs := gf7 ad) hK hW (by omega) (fun σ τ => ge_7 rfl σ τ) (r := (R_Mod, F_Mod, 37)) rfl) ⟨Nat.le_trans (Nat.le_of_ble_eq_true rfl) hR.1, Nat.le_trans (Nat.le_of_ble_eq_true rfl) hR.2⟩ rfl hl.1 rfl (Nat.le_of_ble_eq_true rfl) d_Mod_handle_106 ⟨Nat.zero_le _, Nat.zero_le _⟩ (fun t H locs hp hW hS => ?_)
              subst hp
              have hW : gW g A ad np u (sQA (fun i => a2 6 (5 * Q1 + i)) (a 13 hd + 1) (gu (gu a2 15 ng (nI Q1)) 0 25 (nI (ng + 1))) (i + 1), x, o) H := hW
              refine lv_iinc (v := nI (i + 1)) (k := 3) hx hb d_Mod_handle_109 hl rfl (nI_inc i) (by decide) rfl (fun ls hl => ?_)
              have hl : lv_has ls 5 [(4, .int (nI (i + 1))), (0, .ref (ad 74)), (2, .int (a 13 hd)), (3, .int (nI Q1))] := hl
              refine lv_goto (tgt := 72) hx hb d_Mod_handle_112 (by decide) ?_
              exact ih72 (i + 1) _ _ _ (by omega) (fun _ => Int32.not_le.mp h88) (by omega) (lv_sub hl [1, 2, 3, 0] rfl) hW hS
      exact lp72 _ 0 _ _ _ (Nat.zero_le _) (fun q => absurd q (by decide)) (Nat.lt_succ_self _) (lv_sub hl [4, 2, 1, 0] rfl) hW hS
theorem C_Mod_handle (l : Launch) {g : gG} {A : Nat → Prop} {ad : Nat → Nat} {np : Nat} {u : gS} {a x : gA} {o : gL} {nm : Nat} (hw : WFw nm a) (hg : WFg nm a) (hlt : cn a 20 < cn a 21) : CtV l y_Mod_handle b_Mod_handle 5 3 [.ref (ad 74)] g A ad np u (a, x, o) (fun t => t = (u, (sH a, x, o))) := mkV (by decide) rfl (Nat.le_of_ble_eq_true rfl) (B_Mod_handle l hw hg hlt)

set_option maxHeartbeats 400000 in
set_option maxRecDepth 20000 in
theorem B_Mod_begin (l : Launch) {g : gG} {A : Nat → Prop} {ad : Nat → Nat} {np : Nat} {u : gS} {a x : gA} {o : gL} {nm : Nat} {w1 w2 w3 w4 : Int32} (hw : WFw nm a) : BdI l b_Mod_begin 6 R_Mod 1 [.ref (ad 74), .int w1, .int w2, .int w3, .int w4] g A ad np u (a, x, o) (fun r t => r = bI (pB a w1 w2 w3 w4) ∧ t = (u, (sB a w1 w2 w3 w4, x, o))) := by
  intro p e R s m args below meth c Q ls X hW hS hR hl hret
  have hx := X.1.1
  have hb := X.1.2.1
  have hml := X.1.2.2.1
  have hown := X.1.2.2.2.1
  have hts := X.1.2.2.2.2
  have hK := X.2.1
  have hl : lv_has ls 6 [(0, .ref (ad 74)), (1, .int w1), (2, .int w2), (3, .int w3), (4, .int w4)] := hl
  have hnp := hw.1
  obtain ⟨kf, hkf6, e12, hkf⟩ := hw.2.2.2.2.2.2.2.1
  refine lv_aload_n hx hb d_Mod_begin_0 rfl (lv_at hl 0 rfl) ?_
  refine gf_Mod_73 (z := a 0 13) X hW  (gv_2_0_13 _) rfl rfl d_Mod_begin_1 ?_
  refine lv_if_ne (tgt := 56) hx hb d_Mod_begin_4 (by decide) (fun h4 => ?_) (fun h4 => ?_)
  · -- 4 t
    refine lv_iconst (v := 0) hx hb d_Mod_begin_56 (by decide) ?_
    refine hret 0 (u, (a, x, o)) _ _ _ _ ?_ hW hS d_Mod_begin_57
    have e9 : pB a w1 w2 w3 w4 = false := by
      unfold pB
      first
        | (rw [decide_eq_false h4]; rfl)
        | (rw [sIn_f1 h8]; simp; done)
        | (rw [sIn_f2 h14]; simp; done)
        | (rw [sIn_f1 h18]; simp; done)
        | (rw [sIn_f2 h23]; simp; done)
        | (rw [sIn_f1 h27]; simp; done)
        | (rw [sIn_f2 h33]; simp; done)
        | (rw [sIn_f1 h39]; simp; done)
        | (rw [sIn_f2 h46]; simp; done)
        | (rw [decide_eq_false (p := ¬ a 0 12 = 0) (not_not_intro h53)]; simp; done)
    exact ⟨by rw [e9]; rfl, by unfold sB; rw [if_neg (by rw [e9]; decide)]⟩
  · -- 4 f
    refine lv_iload_n hx hb d_Mod_begin_7 rfl (lv_at hl 1 rfl) ?_
    refine lv_if_lt (tgt := 56) hx hb d_Mod_begin_8 (by decide) (fun h8 => ?_) (fun h8 => ?_)
    · -- 8 t
      refine lv_iconst (v := 0) hx hb d_Mod_begin_56 (by decide) ?_
      refine hret 0 (u, (a, x, o)) _ _ _ _ ?_ hW hS d_Mod_begin_57
      have e9 : pB a w1 w2 w3 w4 = false := by
        unfold pB
        first
          | (rw [decide_eq_false h4]; rfl)
          | (rw [sIn_f1 h8]; simp; done)
          | (rw [sIn_f2 h14]; simp; done)
          | (rw [sIn_f1 h18]; simp; done)
          | (rw [sIn_f2 h23]; simp; done)
          | (rw [sIn_f1 h27]; simp; done)
          | (rw [sIn_f2 h33]; simp; done)
          | (rw [sIn_f1 h39]; simp; done)
          | (rw [sIn_f2 h46]; simp; done)
          | (rw [decide_eq_false (p := ¬ a 0 12 = 0) (not_not_intro h53)]; simp; done)
      exact ⟨by rw [e9]; rfl, by unfold sB; rw [if_neg (by rw [e9]; decide)]⟩
    · -- 8 f
      refine lv_iload_n hx hb d_Mod_begin_11 rfl (lv_at hl 1 rfl) ?_
      refine lv_bipush (v := 6) hx hb d_Mod_begin_12 (by decide) ?_
      refine lv_icmp_gt (tgt := 56) hx hb d_Mod_begin_14 (by decide) (fun h14 => ?_) (fun h14 => ?_)
      · -- 14 t
        refine lv_iconst (v := 0) hx hb d_Mod_begin_56 (by decide) ?_
        refine hret 0 (u, (a, x, o)) _ _ _ _ ?_ hW hS d_Mod_begin_57
        have e9 : pB a w1 w2 w3 w4 = false := by
          unfold pB
          first
            | (rw [decide_eq_false h4]; rfl)
            | (rw [sIn_f1 h8]; simp; done)
            | (rw [sIn_f2 h14]; simp; done)
            | (rw [sIn_f1 h18]; simp; done)
            | (rw [sIn_f2 h23]; simp; done)
            | (rw [sIn_f1 h27]; simp; done)
            | (rw [sIn_f2 h33]; simp; done)
            | (rw [sIn_f1 h39]; simp; done)
            | (rw [sIn_f2 h46]; simp; done)
            | (rw [decide_eq_false (p := ¬ a 0 12 = 0) (not_not_intro h53)]; simp; done)
        exact ⟨by rw [e9]; rfl, by unfold sB; rw [if_neg (by rw [e9]; decide)]⟩
      · -- 14 f
        refine lv_iload_n hx hb d_Mod_begin_17 rfl (lv_at hl 2 rfl) ?_
        refine lv_if_lt (tgt := 56) hx hb d_Mod_begin_18 (by decide) (fun h18 => ?_) (fun h18 => ?_)
        · -- 18 t
          refine lv_iconst (v := 0) hx hb d_Mod_begin_56 (by decide) ?_
          refine hret 0 (u, (a, x, o)) _ _ _ _ ?_ hW hS d_Mod_begin_57
          have e9 : pB a w1 w2 w3 w4 = false := by
            unfold pB
            first
              | (rw [decide_eq_false h4]; rfl)
              | (rw [sIn_f1 h8]; simp; done)
              | (rw [sIn_f2 h14]; simp; done)
              | (rw [sIn_f1 h18]; simp; done)
              | (rw [sIn_f2 h23]; simp; done)
              | (rw [sIn_f1 h27]; simp; done)
              | (rw [sIn_f2 h33]; simp; done)
              | (rw [sIn_f1 h39]; simp; done)
              | (rw [sIn_f2 h46]; simp; done)
              | (rw [decide_eq_false (p := ¬ a 0 12 = 0) (not_not_intro h53)]; simp; done)
          exact ⟨by rw [e9]; rfl, by unfold sB; rw [if_neg (by rw [e9]; decide)]⟩
        · -- 18 f
          refine lv_iload_n hx hb d_Mod_begin_21 rfl (lv_at hl 2 rfl) ?_
          refine lv_iconst (v := 4) hx hb d_Mod_begin_22 (by decide) ?_
          refine lv_icmp_gt (tgt := 56) hx hb d_Mod_begin_23 (by decide) (fun h23 => ?_) (fun h23 => ?_)
          · -- 23 t
            refine lv_iconst (v := 0) hx hb d_Mod_begin_56 (by decide) ?_
            refine hret 0 (u, (a, x, o)) _ _ _ _ ?_ hW hS d_Mod_begin_57
            have e9 : pB a w1 w2 w3 w4 = false := by
              unfold pB
              first
                | (rw [decide_eq_false h4]; rfl)
                | (rw [sIn_f1 h8]; simp; done)
                | (rw [sIn_f2 h14]; simp; done)
                | (rw [sIn_f1 h18]; simp; done)
                | (rw [sIn_f2 h23]; simp; done)
                | (rw [sIn_f1 h27]; simp; done)
                | (rw [sIn_f2 h33]; simp; done)
                | (rw [sIn_f1 h39]; simp; done)
                | (rw [sIn_f2 h46]; simp; done)
                | (rw [decide_eq_false (p := ¬ a 0 12 = 0) (not_not_intro h53)]; simp; done)
            exact ⟨by rw [e9]; rfl, by unfold sB; rw [if_neg (by rw [e9]; decide)]⟩
          · -- 23 f
            refine lv_iload_n hx hb d_Mod_begin_26 rfl (lv_at hl 3 rfl) ?_
            refine lv_if_lt (tgt := 56) hx hb d_Mod_begin_27 (by decide) (fun h27 => ?_) (fun h27 => ?_)
            · -- 27 t
              refine lv_iconst (v := 0) hx hb d_Mod_begin_56 (by decide) ?_
              refine hret 0 (u, (a, x, o)) _ _ _ _ ?_ hW hS d_Mod_begin_57
              have e9 : pB a w1 w2 w3 w4 = false := by
                unfold pB
                first
                  | (rw [decide_eq_false h4]; rfl)
                  | (rw [sIn_f1 h8]; simp; done)
                  | (rw [sIn_f2 h14]; simp; done)
                  | (rw [sIn_f1 h18]; simp; done)
                  | (rw [sIn_f2 h23]; simp; done)
                  | (rw [sIn_f1 h27]; simp; done)
                  | (rw [sIn_f2 h33]; simp; done)
                  | (rw [sIn_f1 h39]; simp; done)
                  | (rw [sIn_f2 h46]; simp; done)
                  | (rw [decide_eq_false (p := ¬ a 0 12 = 0) (not_not_intro h53)]; simp; done)
              exact ⟨by rw [e9]; rfl, by unfold sB; rw [if_neg (by rw [e9]; decide)]⟩
            · -- 27 f
              refine lv_iload_n hx hb d_Mod_begin_30 rfl (lv_at hl 3 rfl) ?_
              refine lv_bipush (v := 9) hx hb d_Mod_begin_31 (by decide) ?_
              refine lv_icmp_gt (tgt := 56) hx hb d_Mod_begin_33 (by decide) (fun h33 => ?_) (fun h33 => ?_)
              · -- 33 t
                refine lv_iconst (v := 0) hx hb d_Mod_begin_56 (by decide) ?_
                refine hret 0 (u, (a, x, o)) _ _ _ _ ?_ hW hS d_Mod_begin_57
                have e9 : pB a w1 w2 w3 w4 = false := by
                  unfold pB
                  first
                    | (rw [decide_eq_false h4]; rfl)
                    | (rw [sIn_f1 h8]; simp; done)
                    | (rw [sIn_f2 h14]; simp; done)
                    | (rw [sIn_f1 h18]; simp; done)
                    | (rw [sIn_f2 h23]; simp; done)
                    | (rw [sIn_f1 h27]; simp; done)
                    | (rw [sIn_f2 h33]; simp; done)
                    | (rw [sIn_f1 h39]; simp; done)
                    | (rw [sIn_f2 h46]; simp; done)
                    | (rw [decide_eq_false (p := ¬ a 0 12 = 0) (not_not_intro h53)]; simp; done)
                exact ⟨by rw [e9]; rfl, by unfold sB; rw [if_neg (by rw [e9]; decide)]⟩
              · -- 33 f
                refine lv_iload hx hb d_Mod_begin_36 (lv_at hl 4 rfl) ?_
                refine lv_iconst (v := 1) hx hb d_Mod_begin_38 (by decide) ?_
                refine lv_icmp_lt (tgt := 56) hx hb d_Mod_begin_39 (by decide) (fun h39 => ?_) (fun h39 => ?_)
                · -- 39 t
                  refine lv_iconst (v := 0) hx hb d_Mod_begin_56 (by decide) ?_
                  refine hret 0 (u, (a, x, o)) _ _ _ _ ?_ hW hS d_Mod_begin_57
                  have e9 : pB a w1 w2 w3 w4 = false := by
                    unfold pB
                    first
                      | (rw [decide_eq_false h4]; rfl)
                      | (rw [sIn_f1 h8]; simp; done)
                      | (rw [sIn_f2 h14]; simp; done)
                      | (rw [sIn_f1 h18]; simp; done)
                      | (rw [sIn_f2 h23]; simp; done)
                      | (rw [sIn_f1 h27]; simp; done)
                      | (rw [sIn_f2 h33]; simp; done)
                      | (rw [sIn_f1 h39]; simp; done)
                      | (rw [sIn_f2 h46]; simp; done)
                      | (rw [decide_eq_false (p := ¬ a 0 12 = 0) (not_not_intro h53)]; simp; done)
                  exact ⟨by rw [e9]; rfl, by unfold sB; rw [if_neg (by rw [e9]; decide)]⟩
                · -- 39 f
                  refine lv_iload hx hb d_Mod_begin_42 (lv_at hl 4 rfl) ?_
                  refine lv_bipush (v := 8) hx hb d_Mod_begin_44 (by decide) ?_
                  refine lv_icmp_gt (tgt := 56) hx hb d_Mod_begin_46 (by decide) (fun h46 => ?_) (fun h46 => ?_)
                  · -- 46 t
                    refine lv_iconst (v := 0) hx hb d_Mod_begin_56 (by decide) ?_
                    refine hret 0 (u, (a, x, o)) _ _ _ _ ?_ hW hS d_Mod_begin_57
                    have e9 : pB a w1 w2 w3 w4 = false := by
                      unfold pB
                      first
                        | (rw [decide_eq_false h4]; rfl)
                        | (rw [sIn_f1 h8]; simp; done)
                        | (rw [sIn_f2 h14]; simp; done)
                        | (rw [sIn_f1 h18]; simp; done)
                        | (rw [sIn_f2 h23]; simp; done)
                        | (rw [sIn_f1 h27]; simp; done)
                        | (rw [sIn_f2 h33]; simp; done)
                        | (rw [sIn_f1 h39]; simp; done)
                        | (rw [sIn_f2 h46]; simp; done)
                        | (rw [decide_eq_false (p := ¬ a 0 12 = 0) (not_not_intro h53)]; simp; done)
                    exact ⟨by rw [e9]; rfl, by unfold sB; rw [if_neg (by rw [e9]; decide)]⟩
                  · -- 46 f
                    refine lv_aload_n hx hb d_Mod_begin_49 rfl (lv_at hl 0 rfl) ?_
                    refine gf_Mod_82 (z := a 0 12) X hW  (gv_2_0_12 _) rfl rfl d_Mod_begin_50 ?_
                    refine lv_if_ne (tgt := 58) hx hb d_Mod_begin_53 (by decide) (fun h53 => ?_) (fun h53 => ?_)
                    · -- 53 t
                      refine lv_aload_n hx hb d_Mod_begin_58 rfl (lv_at hl 0 rfl) ?_
                      refine lv_iconst (v := 1) hx hb d_Mod_begin_59 (by decide) ?_
                      refine pf_Mod_73 (z := 1) X hW hS  (gv_2_0_13 _) rfl rfl rfl d_Mod_begin_60 (fun H locs hW hS => ?_)
                      have hW : gW g A ad np u (gu a 0 13 1, x, o) H := hW
                      refine lv_aload_n hx hb d_Mod_begin_63 rfl (lv_at hl 0 rfl) ?_
                      refine lv_iload_n hx hb d_Mod_begin_64 rfl (lv_at hl 1 rfl) ?_
                      refine pf_Mod_131 (z := w1) X hW hS  (gv_2_0_14 _) rfl rfl rfl d_Mod_begin_65 (fun H locs hW hS => ?_)
                      have hW : gW g A ad np u (gu (gu a 0 13 1) 0 14 w1, x, o) H := hW
                      refine lv_aload_n hx hb d_Mod_begin_68 rfl (lv_at hl 0 rfl) ?_
                      refine lv_iload_n hx hb d_Mod_begin_69 rfl (lv_at hl 2 rfl) ?_
                      refine pf_Mod_111 (z := w2) X hW hS  (gv_2_0_15 _) rfl rfl rfl d_Mod_begin_70 (fun H locs hW hS => ?_)
                      have hW : gW g A ad np u (gu (gu (gu a 0 13 1) 0 14 w1) 0 15 w2, x, o) H := hW
                      refine lv_aload_n hx hb d_Mod_begin_73 rfl (lv_at hl 0 rfl) ?_
                      refine lv_iload_n hx hb d_Mod_begin_74 rfl (lv_at hl 3 rfl) ?_
                      refine pf_Mod_98 (z := w3) X hW hS  (gv_2_0_16 _) rfl rfl rfl d_Mod_begin_75 (fun H locs hW hS => ?_)
                      have hW : gW g A ad np u (gu (gu (gu (gu a 0 13 1) 0 14 w1) 0 15 w2) 0 16 w3, x, o) H := hW
                      refine lv_aload_n hx hb d_Mod_begin_78 rfl (lv_at hl 0 rfl) ?_
                      refine lv_iload hx hb d_Mod_begin_79 (lv_at hl 4 rfl) ?_
                      refine pf_Mod_141 (z := w4) X hW hS  (gv_2_0_17 _) rfl rfl rfl d_Mod_begin_81 (fun H locs hW hS => ?_)
                      have hW : gW g A ad np u (gu (gu (gu (gu (gu a 0 13 1) 0 14 w1) 0 15 w2) 0 16 w3) 0 17 w4, x, o) H := hW
                      refine lv_aload_n hx hb d_Mod_begin_84 rfl (lv_at hl 0 rfl) ?_
                      refine lv_iconst (v := 0) hx hb d_Mod_begin_85 (by decide) ?_
                      refine pf_Mod_120 (z := 0) X hW hS  (gv_2_0_20 _) rfl rfl rfl d_Mod_begin_86 (fun H locs hW hS => ?_)
                      have hW : gW g A ad np u (gu (gu (gu (gu (gu (gu a 0 13 1) 0 14 w1) 0 15 w2) 0 16 w3) 0 17 w4) 0 20 0, x, o) H := hW
                      refine lv_aload_n hx hb d_Mod_begin_89 rfl (lv_at hl 0 rfl) ?_
                      refine lv_iconst (v := 0) hx hb d_Mod_begin_90 (by decide) ?_
                      refine pf_Mod_117 (z := 0) X hW hS  (gv_2_0_21 _) rfl rfl rfl d_Mod_begin_91 (fun H locs hW hS => ?_)
                      have hW : gW g A ad np u (gu (gu (gu (gu (gu (gu (gu a 0 13 1) 0 14 w1) 0 15 w2) 0 16 w3) 0 17 w4) 0 20 0) 0 21 0, x, o) H := hW
                      refine lv_aload_n hx hb d_Mod_begin_94 rfl (lv_at hl 0 rfl) ?_
                      refine lv_iconst (v := 0) hx hb d_Mod_begin_95 (by decide) ?_
                      refine pf_Mod_89 (z := 0) X hW hS  (gv_2_0_23 _) rfl rfl rfl d_Mod_begin_96 (fun H locs hW hS => ?_)
                      have hW : gW g A ad np u (gu (gu (gu (gu (gu (gu (gu (gu a 0 13 1) 0 14 w1) 0 15 w2) 0 16 w3) 0 17 w4) 0 20 0) 0 21 0) 0 23 0, x, o) H := hW
                      refine lv_aload_n hx hb d_Mod_begin_99 rfl (lv_at hl 0 rfl) ?_
                      refine lv_iconst (v := 0) hx hb d_Mod_begin_100 (by decide) ?_
                      refine pf_Mod_114 (z := 0) X hW hS  (gv_2_0_25 _) rfl rfl rfl d_Mod_begin_101 (fun H locs hW hS => ?_)
                      have hW : gW g A ad np u (gu (gu (gu (gu (gu (gu (gu (gu (gu a 0 13 1) 0 14 w1) 0 15 w2) 0 16 w3) 0 17 w4) 0 20 0) 0 21 0) 0 23 0) 0 25 0, x, o) H := hW
                      refine lv_aload_n hx hb d_Mod_begin_104 rfl (lv_at hl 0 rfl) ?_
                      refine lv_iconst (v := 0) hx hb d_Mod_begin_105 (by decide) ?_
                      refine pf_Mod_95 (z := 0) X hW hS  (gv_2_0_26 _) rfl rfl rfl d_Mod_begin_106 (fun H locs hW hS => ?_)
                      have hW : gW g A ad np u (gu (gu (gu (gu (gu (gu (gu (gu (gu (gu a 0 13 1) 0 14 w1) 0 15 w2) 0 16 w3) 0 17 w4) 0 20 0) 0 21 0) 0 23 0) 0 25 0) 0 26 0, x, o) H := hW
                      refine lv_aload_n hx hb d_Mod_begin_109 rfl (lv_at hl 0 rfl) ?_
                      refine lv_iconst (v := 0) hx hb d_Mod_begin_110 (by decide) ?_
                      refine pf_Mod_101 (z := 0) X hW hS  (gv_2_0_28 _) rfl rfl rfl d_Mod_begin_111 (fun H locs hW hS => ?_)
                      have hW : gW g A ad np u (gu (gu (gu (gu (gu (gu (gu (gu (gu (gu (gu a 0 13 1) 0 14 w1) 0 15 w2) 0 16 w3) 0 17 w4) 0 20 0) 0 21 0) 0 23 0) 0 25 0) 0 26 0) 0 28 0, x, o) H := hW
                      refine lv_iconst (v := 0) hx hb d_Mod_begin_114 (by decide) ?_
                      refine lv_istore hx hb d_Mod_begin_115 hl (by decide) rfl (fun ls hl => ?_)
                      have hl : lv_has ls 6 [(5, .int 0), (0, .ref (ad 74)), (1, .int w1), (2, .int w2), (3, .int w3), (4, .int w4)] := hl
                      have lp117 : ∀ (fuel : Nat) (i : Nat) (ls : Array Slot) (H : Heap) (locs : List Loc), (i ≤ 6) → 6 - i < fuel → lv_has ls 6 [(0, .ref (ad 74)), (5, .int (nI i))] → gW g A ad np u (sAF (sB1 a w1 w2 w3 w4) 0 i, x, o) H → va_S A s.heap H locs → W p l e R s m args below meth c H locs 0 0 Q (F0 m 117 ls []) := by
                        intro fuel
                        induction fuel with
                        | zero => intro i ls H locs _ hfu; exact absurd hfu (Nat.not_lt_zero _)
                        | succ fuel ih117 =>
                          intro i ls H locs hi hfu hl hW hS
                          refine lv_iload hx hb d_Mod_begin_117 (lv_at hl 1 rfl) ?_
                          refine lv_bipush (v := 6) hx hb d_Mod_begin_119 (by decide) ?_
                          refine lv_icmp_ge (tgt := 138) hx hb d_Mod_begin_121 (by decide) (fun h121 => ?_) (fun h121 => ?_)
                          · -- 121 t
                            have h121 : 6 ≤ i := (nI_leI (a := 6) (b := i) (by omega) (by omega)).mp h121
                            refine lv_iconst (v := 0) hx hb d_Mod_begin_138 (by decide) ?_
                            refine lv_istore hx hb d_Mod_begin_139 hl (by decide) rfl (fun ls hl => ?_)
                            have hl : lv_has ls 6 [(5, .int 0), (0, .ref (ad 74))] := hl
                            have lp141 : ∀ (fuel : Nat) (j : Nat) (ls : Array Slot) (H : Heap) (locs : List Loc), (j ≤ kf) → kf - j < fuel → lv_has ls 6 [(0, .ref (ad 74)), (5, .int (nI j))] → gW g A ad np u (sQA (a 11) 0 (sAF (sB1 a w1 w2 w3 w4) 0 6) j, x, o) H → va_S A s.heap H locs → W p l e R s m args below meth c H locs 0 0 Q (F0 m 141 ls []) := by
                              intro fuel
                              induction fuel with
                              | zero => intro j ls H locs _ hfu; exact absurd hfu (Nat.not_lt_zero _)
                              | succ fuel ih141 =>
                                intro j ls H locs hj hfu hl hW hS
                                refine lv_iload hx hb d_Mod_begin_141 (lv_at hl 1 rfl) ?_
                                refine lv_aload_n hx hb d_Mod_begin_143 rfl (lv_at hl 0 rfl) ?_
                                refine gf_Mod_82 (z := nI kf) X hW  (gv_2_0_12 _) rfl ((qk_sQA _ _ _ _ 0 12 (by omega)).trans ((congrFun (sAF_row _ _ (by decide) _) 12).trans e12)) d_Mod_begin_144 ?_
                                refine lv_icmp_ge (tgt := 168) hx hb d_Mod_begin_147 (by decide) (fun h147 => ?_) (fun h147 => ?_)
                                · -- 147 t
                                  have h147 : kf ≤ j := (nI_leI (a := kf) (b := j) (by omega) (by omega)).mp h147
                                  refine lv_aload_n hx hb d_Mod_begin_168 rfl (lv_at hl 0 rfl) ?_
                                  refine gc_vV (As := []) (b := ad 74) (rest := []) X cw_Mod_144 (C_Mod_mark l (u := u) (a := sQA (a 11) 0 (sAF (sB1 a w1 w2 w3 w4) 0 6) j) (x := x) (o := o)) hW hS (gW_recv (ci := 7) (fs := gf7 ad) hK hW (by omega) (fun σ τ => ge_7 rfl σ τ) (r := (R_Mod, F_Mod, 37)) rfl) ⟨Nat.le_trans (Nat.le_of_ble_eq_true rfl) hR.1, Nat.le_trans (Nat.le_of_ble_eq_true rfl) hR.2⟩ rfl hl.1 rfl (Nat.le_of_ble_eq_true rfl) d_Mod_begin_169 ⟨Nat.zero_le _, Nat.zero_le _⟩ (fun t H locs hp hW hS => ?_)
                                  subst hp
                                  have hW : gW g A ad np u (sMk (sQA (a 11) 0 (sAF (sB1 a w1 w2 w3 w4) 0 6) j), x, o) H := hW
                                  refine lv_iconst (v := 1) hx hb d_Mod_begin_172 (by decide) ?_
                                  refine hret 1 (u, (sMk (sQA (a 11) 0 (sAF (sB1 a w1 w2 w3 w4) 0 6) j), x, o)) _ _ _ _ ?_ hW hS d_Mod_begin_173
                                  have e9 : pB a w1 w2 w3 w4 = true := by unfold pB; rw [decide_eq_true h4, decide_eq_true h53, sIn_t h8 h14, sIn_t h18 h23, sIn_t h27 h33, sIn_t h39 h46]; rfl
                                  exact ⟨by rw [e9]; rfl, by unfold sB sSt; rw [if_pos e9, cn_of e12 (by omega), ← sB1_end, show kf = j by omega]⟩
                                · -- 147 f
                                  have h147 : j < kf := Nat.lt_of_not_le fun q => h147 ((nI_leI (a := kf) (b := j) (by omega) (by omega)).mpr q)
                                  refine lv_aload_n hx hb d_Mod_begin_150 rfl (lv_at hl 0 rfl) ?_
                                  refine lv_aload_n hx hb d_Mod_begin_151 rfl (lv_at hl 0 rfl) ?_
                                  refine gf_Mod_41 X hW  d_Mod_begin_152 ?_
                                  refine lv_iload hx hb d_Mod_begin_155 (lv_at hl 1 rfl) ?_
                                  refine gy_ia (z := a 11 j) (q := (2, 11, j)) hx hb hK hW (by omega) rfl (show vp_in _ 6 from vp_in_nI (by omega) (by decide)) (gv_2_11 (by omega)) ((gi_2_11 _).trans (by rw [nI_clamp (by omega)])) ((qk_sQA _ _ _ _ 11 j (by omega)).trans (congrFun (sAF_row _ _ (by decide) _) j)) d_Mod_begin_157 ?_
                                  refine lv_iconst (v := 0) hx hb d_Mod_begin_158 (by decide) ?_
                                  obtain ⟨nq1, -, hq1, hd1⟩ := sQA_dst (f := a 11) (d := 0) (a := sAF (sB1 a w1 w2 w3 w4) 0 6) (nq := 0) (np := nm) (by rw [sAF_row _ _ (by decide)]; rfl) (dst_0 _ _) hnp j (fun i hi => hkf i (by omega))
                                  obtain ⟨q7, hq7, e7⟩ := hkf j (by omega)
                                  refine gc_vV (As := [.int (a 11 j), .int 0]) (b := ad 74) (rest := []) X cw_Mod_134 (C_Mod_queue l (u := u) (a := sQA (a 11) 0 (sAF (sB1 a w1 w2 w3 w4) 0 6) j) (x := x) (o := o) (nm := nm) (nq := nq1) (q := q7) hnp hq1 hd1 hq7 e7) hW hS (gW_recv (ci := 7) (fs := gf7 ad) hK hW (by omega) (fun σ τ => ge_7 rfl σ τ) (r := (R_Mod, F_Mod, 37)) rfl) ⟨Nat.le_trans (Nat.le_of_ble_eq_true rfl) hR.1, Nat.le_trans (Nat.le_of_ble_eq_true rfl) hR.2⟩ rfl hl.1 rfl (Nat.le_of_ble_eq_true rfl) d_Mod_begin_159 ⟨Nat.zero_le _, Nat.zero_le _⟩ (fun t H locs hp hW hS => ?_)
                                  subst hp
                                  have hW : gW g A ad np u (sQA (a 11) 0 (sAF (sB1 a w1 w2 w3 w4) 0 6) (j + 1), x, o) H := hW
                                  refine lv_iinc (v := nI (j + 1)) (k := 1) hx hb d_Mod_begin_162 hl rfl (nI_inc j) (by decide) rfl (fun ls hl => ?_)
                                  have hl : lv_has ls 6 [(5, .int (nI (j + 1))), (0, .ref (ad 74))] := hl
                                  refine lv_goto (tgt := 141) hx hb d_Mod_begin_165 (by decide) ?_
                                  exact ih141 (j + 1) _ _ _ (by omega) (by omega) (lv_sub hl [1, 0] rfl) hW hS
                            rw [show i = 6 by omega] at hW
                            exact lp141 _ 0 _ _ _ (Nat.zero_le _) (Nat.lt_succ_self _) (lv_sub hl [1, 0] rfl) hW hS
                          · -- 121 f
                            have h121 : i < 6 := Nat.lt_of_not_le fun q => h121 ((nI_leI (a := 6) (b := i) (by omega) (by omega)).mpr q)
                            refine lv_aload_n hx hb d_Mod_begin_124 rfl (lv_at hl 0 rfl) ?_
                            refine gf_Mod_56 X hW  d_Mod_begin_125 ?_
                            refine lv_iload hx hb d_Mod_begin_128 (lv_at hl 1 rfl) ?_
                            refine lv_iconst (v := 0) hx hb d_Mod_begin_130 (by decide) ?_
                            refine gy_is (z := 0) (q := (2, 16, i)) hx hb hK hW hS (by omega) rfl (show vp_in _ 6 from vp_in_nI (by omega) (by decide)) (gv_2_16 (by omega)) ((gi_2_16 _).trans (by rw [nI_clamp (by omega)])) d_Mod_begin_131 (fun H locs hW hS => ?_)
                            have hW : gW g A ad np u (gu (sAF (sB1 a w1 w2 w3 w4) 0 i) 16 i 0, x, o) H := hW
                            refine lv_iinc (v := nI (i + 1)) (k := 1) hx hb d_Mod_begin_132 hl rfl (nI_inc i) (by decide) rfl (fun ls hl => ?_)
                            have hl : lv_has ls 6 [(5, .int (nI (i + 1))), (0, .ref (ad 74))] := hl
                            refine lv_goto (tgt := 117) hx hb d_Mod_begin_135 (by decide) ?_
                            exact ih117 (i + 1) _ _ _ (by omega) (by omega) (lv_sub hl [1, 0] rfl) hW hS
                      exact lp117 _ 0 _ _ _ (by decide) (Nat.lt_succ_self _) (lv_sub hl [1, 0] rfl) hW hS
                    · -- 53 f
                      refine lv_iconst (v := 0) hx hb d_Mod_begin_56 (by decide) ?_
                      refine hret 0 (u, (a, x, o)) _ _ _ _ ?_ hW hS d_Mod_begin_57
                      have e9 : pB a w1 w2 w3 w4 = false := by
                        unfold pB
                        first
                          | (rw [decide_eq_false h4]; rfl)
                          | (rw [sIn_f1 h8]; simp; done)
                          | (rw [sIn_f2 h14]; simp; done)
                          | (rw [sIn_f1 h18]; simp; done)
                          | (rw [sIn_f2 h23]; simp; done)
                          | (rw [sIn_f1 h27]; simp; done)
                          | (rw [sIn_f2 h33]; simp; done)
                          | (rw [sIn_f1 h39]; simp; done)
                          | (rw [sIn_f2 h46]; simp; done)
                          | (rw [decide_eq_false (p := ¬ a 0 12 = 0) (not_not_intro h53)]; simp; done)
                      exact ⟨by rw [e9]; rfl, by unfold sB; rw [if_neg (by rw [e9]; decide)]⟩
theorem C_Mod_begin (l : Launch) {g : gG} {A : Nat → Prop} {ad : Nat → Nat} {np : Nat} {u : gS} {a x : gA} {o : gL} {nm : Nat} {w1 w2 w3 w4 : Int32} (hw : WFw nm a) : CtI l y_Mod_begin b_Mod_begin 6 .boolean 1 [.ref (ad 74), .int w1, .int w2, .int w3, .int w4] g A ad np u (a, x, o) (fun r t => r = bI (pB a w1 w2 w3 w4) ∧ t = (u, (sB a w1 w2 w3 w4, x, o))) := mkI (by decide) rfl (Nat.le_of_ble_eq_true rfl) (fun r t h => h.1 ▸ bI_nar _) (B_Mod_begin l hw)

set_option maxHeartbeats 400000 in
set_option maxRecDepth 20000 in
theorem B_Mod_stop (l : Launch) {g : gG} {A : Nat → Prop} {ad : Nat → Nat} {np : Nat} {u : gS} {a x : gA} {o : gL} (hb1 : a 0 13 = 0 ∨ a 0 13 = 1) : BdI l b_Mod_stop 2 R_Mod 0 [.ref (ad 74)] g A ad np u (a, x, o) (fun r t => t = (u, (gu a 0 13 0, x, o)) ∧ r = bI (decide (¬ a 0 13 = 0))) := by
  intro p e R s m args below meth c Q ls X hW hS hR hl hret
  have hx := X.1.1
  have hb := X.1.2.1
  have hml := X.1.2.2.1
  have hown := X.1.2.2.2.1
  have hts := X.1.2.2.2.2
  have hK := X.2.1
  have hl : lv_has ls 2 [(0, .ref (ad 74))] := hl
  refine lv_aload_n hx hb d_Mod_stop_0 rfl (lv_at hl 0 rfl) ?_
  refine gf_Mod_73 (z := a 0 13) X hW  (gv_2_0_13 _) rfl rfl d_Mod_stop_1 ?_
  refine lv_istore_n hx hb d_Mod_stop_4 rfl hl (by decide) rfl (fun ls hl => ?_)
  have hl : lv_has ls 2 [(1, .int (a 0 13)), (0, .ref (ad 74))] := hl
  refine lv_aload_n hx hb d_Mod_stop_5 rfl (lv_at hl 1 rfl) ?_
  refine lv_iconst (v := 0) hx hb d_Mod_stop_6 (by decide) ?_
  refine pf_Mod_73 (z := 0) X hW hS  (gv_2_0_13 _) rfl rfl rfl d_Mod_stop_7 (fun H locs hW hS => ?_)
  have hW : gW g A ad np u (gu a 0 13 0, x, o) H := hW
  refine lv_iload_n hx hb d_Mod_stop_10 rfl (lv_at hl 0 rfl) ?_
  refine hret (a 0 13) (u, (gu a 0 13 0, x, o)) _ _ _ _ ?_ hW hS d_Mod_stop_11
  exact ⟨rfl, bI_of hb1⟩
theorem C_Mod_stop (l : Launch) {g : gG} {A : Nat → Prop} {ad : Nat → Nat} {np : Nat} {u : gS} {a x : gA} {o : gL} (hb1 : a 0 13 = 0 ∨ a 0 13 = 1) : CtI l y_Mod_stop b_Mod_stop 2 .boolean 0 [.ref (ad 74)] g A ad np u (a, x, o) (fun r t => t = (u, (gu a 0 13 0, x, o)) ∧ r = bI (decide (¬ a 0 13 = 0))) := mkI (by decide) rfl (Nat.le_of_ble_eq_true rfl) (fun r t h => h.2 ▸ bI_nar _) (B_Mod_stop l hb1)

set_option maxHeartbeats 400000 in
set_option maxRecDepth 20000 in
theorem B_Mod_work (l : Launch) {g : gG} {A : Nat → Prop} {ad : Nat → Nat} {np : Nat} {u : gS} {a x : gA} {o : gL} {nm : Nat} {w1 : Int32} (hw : WFw nm a) (hg : WFg nm a) : BdI l b_Mod_work 4 R_Mod 4 [.ref (ad 74), .int w1] g A ad np u (a, x, o) (fun r t => r = rWk a w1 ∧ t = (u, (sWo a w1, x, o))) := by
  intro p e R s m args below meth c Q ls X hW hS hR hl hret
  have hx := X.1.1
  have hb := X.1.2.1
  have hml := X.1.2.2.1
  have hown := X.1.2.2.2.1
  have hts := X.1.2.2.2.2
  have hK := X.2.1
  have hl : lv_has ls 4 [(0, .ref (ad 74)), (1, .int w1)] := hl
  have hnp := hw.1
  refine lv_aload_n hx hb d_Mod_work_0 rfl (lv_at hl 0 rfl) ?_
  refine gf_Mod_73 (z := a 0 13) X hW  (gv_2_0_13 _) rfl rfl d_Mod_work_1 ?_
  refine lv_if_eq (tgt := 18) hx hb d_Mod_work_4 (by decide) (fun h4 => ?_) (fun h4 => ?_)
  · -- 4 t
    refine lv_iconst (v := (-1)) hx hb d_Mod_work_18 (by decide) ?_
    refine hret (-1) (u, (a, x, o)) _ _ _ _ ?_ hW hS d_Mod_work_19
    have e9 : pWk a w1 = false := by
      unfold pWk
      first
        | (rw [decide_eq_false (not_not_intro h4)]; rfl)
        | (rw [sIn_f1 h9, Bool.and_false])
        | (rw [sIn_f2 (Int32.not_le.mp h15), Bool.and_false])
    exact ⟨by unfold rWk; rw [if_neg (by rw [e9]; decide)], by unfold sWo; rw [if_neg (by rw [e9]; decide)]⟩
  · -- 4 f
    refine lv_iload_n hx hb d_Mod_work_7 rfl (lv_at hl 1 rfl) ?_
    refine lv_iconst (v := 1) hx hb d_Mod_work_8 (by decide) ?_
    refine lv_icmp_lt (tgt := 18) hx hb d_Mod_work_9 (by decide) (fun h9 => ?_) (fun h9 => ?_)
    · -- 9 t
      refine lv_iconst (v := (-1)) hx hb d_Mod_work_18 (by decide) ?_
      refine hret (-1) (u, (a, x, o)) _ _ _ _ ?_ hW hS d_Mod_work_19
      have e9 : pWk a w1 = false := by
        unfold pWk
        first
          | (rw [decide_eq_false (not_not_intro h4)]; rfl)
          | (rw [sIn_f1 h9, Bool.and_false])
          | (rw [sIn_f2 (Int32.not_le.mp h15), Bool.and_false])
      exact ⟨by unfold rWk; rw [if_neg (by rw [e9]; decide)], by unfold sWo; rw [if_neg (by rw [e9]; decide)]⟩
    · -- 9 f
      refine lv_iload_n hx hb d_Mod_work_12 rfl (lv_at hl 1 rfl) ?_
      refine lv_bipush (v := 10) hx hb d_Mod_work_13 (by decide) ?_
      refine lv_icmp_le (tgt := 20) hx hb d_Mod_work_15 (by decide) (fun h15 => ?_) (fun h15 => ?_)
      · -- 15 t
        have h14 : sIn w1 1 10 = true := sIn_t h9 (Int32.not_lt.mpr h15)
        have e9 : pWk a w1 = true := by unfold pWk; rw [decide_eq_true h4, h14]; rfl
        obtain ⟨n, hn1, hn10, rfl⟩ := sIn_of (lo := 1) (hi := 10) (by decide) (by decide) h14
        refine lv_aload_n hx hb d_Mod_work_20 rfl (lv_at hl 0 rfl) ?_
        refine gf_Mod_101 (z := a 0 28) X hW  (gv_2_0_28 _) rfl rfl d_Mod_work_21 ?_
        refine lv_istore_n hx hb d_Mod_work_24 rfl hl (by decide) rfl (fun ls hl => ?_)
        have hl : lv_has ls 4 [(2, .int (a 0 28)), (0, .ref (ad 74)), (1, .int (nI n))] := hl
        refine lv_iconst (v := 0) hx hb d_Mod_work_25 (by decide) ?_
        refine lv_istore_n hx hb d_Mod_work_26 rfl hl (by decide) rfl (fun ls hl => ?_)
        have hl : lv_has ls 4 [(3, .int 0), (2, .int (a 0 28)), (0, .ref (ad 74)), (1, .int (nI n))] := hl
        have lp27 : ∀ (fuel : Nat) (i : Nat) (ls : Array Slot) (H : Heap) (locs : List Loc), (i ≤ n) → n - i < fuel → lv_has ls 4 [(0, .ref (ad 74)), (1, .int (nI n)), (2, .int (a 0 28)), (3, .int (nI i))] → gW g A ad np u (sWk a i, x, o) H → va_S A s.heap H locs → W p l e R s m args below meth c H locs 0 0 Q (F0 m 27 ls []) := by
          intro fuel
          induction fuel with
          | zero => intro i ls H locs _ hfu; exact absurd hfu (Nat.not_lt_zero _)
          | succ fuel ih27 =>
            intro i ls H locs hi hfu hl hW hS
            refine lv_iload_n hx hb d_Mod_work_27 rfl (lv_at hl 3 rfl) ?_
            refine lv_iload_n hx hb d_Mod_work_28 rfl (lv_at hl 1 rfl) ?_
            refine lv_icmp_ge (tgt := 53) hx hb d_Mod_work_29 (by decide) (fun h29 => ?_) (fun h29 => ?_)
            · -- 29 t
              have h29 : n ≤ i := (nI_leI (a := n) (b := i) (by omega) (by omega)).mp h29
              refine lv_aload_n hx hb d_Mod_work_53 rfl (lv_at hl 0 rfl) ?_
              refine gf_Mod_101 (z := (sWk a i) 0 28) X hW  (gv_2_0_28 _) rfl rfl d_Mod_work_54 ?_
              refine lv_iload_n hx hb d_Mod_work_57 rfl (lv_at hl 2 rfl) ?_
              refine lv_isub hx hb d_Mod_work_58 ?_
              refine hret (((sWk a i) 0 28) - (a 0 28)) (u, (sWk a i, x, o)) _ _ _ _ ?_ hW hS d_Mod_work_59
              have e8 : sWk a n = sWk a i := by
                first
                  | (rw [show n = i by omega])
                  | (have h9 := sWk_stop (a := a) (i := i) (by rw [cn_of e20 (by omega), cn_of e21 (by omega)]; omega) (n - i)
                     rw [show i + (n - i) = n by omega] at h9
                     exact h9)
              exact ⟨by unfold rWk; rw [if_pos e9, nI_clamp (by omega), e8], by unfold sWo; rw [if_pos e9, nI_clamp (by omega), e8]⟩
            · -- 29 f
              have h29 : i < n := Nat.lt_of_not_le fun q => h29 ((nI_leI (a := n) (b := i) (by omega) (by omega)).mpr q)
              obtain ⟨hwi, hgi⟩ := sWk_wf hw hg i
              have hgi2 := hgi
              obtain ⟨hd, nq, nf, ng, mh, mq, mf, mg, hp0, e20, e21, -, -, -, -, -, -, -, -, -, hdq, -, -, -, -, -, d12, -⟩ := hgi2
              have hnq := dst_le d12 hnp
              refine lv_aload_n hx hb d_Mod_work_32 rfl (lv_at hl 0 rfl) ?_
              refine gf_Mod_120 (z := nI hd) X hW  (gv_2_0_20 _) rfl e20 d_Mod_work_33 ?_
              refine lv_aload_n hx hb d_Mod_work_36 rfl (lv_at hl 0 rfl) ?_
              refine gf_Mod_117 (z := nI nq) X hW  (gv_2_0_21 _) rfl e21 d_Mod_work_37 ?_
              refine lv_icmp_ge (tgt := 53) hx hb d_Mod_work_40 (by decide) (fun h40 => ?_) (fun h40 => ?_)
              · -- 40 t
                have h40 : nq ≤ hd := (nI_leI (a := nq) (b := hd) (by omega) (by omega)).mp h40
                refine lv_aload_n hx hb d_Mod_work_53 rfl (lv_at hl 0 rfl) ?_
                refine gf_Mod_101 (z := (sWk a i) 0 28) X hW  (gv_2_0_28 _) rfl rfl d_Mod_work_54 ?_
                refine lv_iload_n hx hb d_Mod_work_57 rfl (lv_at hl 2 rfl) ?_
                refine lv_isub hx hb d_Mod_work_58 ?_
                refine hret (((sWk a i) 0 28) - (a 0 28)) (u, (sWk a i, x, o)) _ _ _ _ ?_ hW hS d_Mod_work_59
                have e8 : sWk a n = sWk a i := by
                  first
                    | (rw [show n = i by omega])
                    | (have h9 := sWk_stop (a := a) (i := i) (by rw [cn_of e20 (by omega), cn_of e21 (by omega)]; omega) (n - i)
                       rw [show i + (n - i) = n by omega] at h9
                       exact h9)
                exact ⟨by unfold rWk; rw [if_pos e9, nI_clamp (by omega), e8], by unfold sWo; rw [if_pos e9, nI_clamp (by omega), e8]⟩
              · -- 40 f
                have h40 : hd < nq := Nat.lt_of_not_le fun q => h40 ((nI_leI (a := nq) (b := hd) (by omega) (by omega)).mpr q)
                have hlt : cn (sWk a i) 20 < cn (sWk a i) 21 := by rw [cn_of e20 (by omega), cn_of e21 (by omega)]; omega
                refine lv_aload_n hx hb d_Mod_work_43 rfl (lv_at hl 0 rfl) ?_
                refine gc_vV (As := []) (b := ad 74) (rest := []) X cw_Mod_159 (C_Mod_handle l (u := u) (a := sWk a i) (x := x) (o := o) (nm := nm) hwi hgi hlt) hW hS (gW_recv (ci := 7) (fs := gf7 ad) hK hW (by omega) (fun σ τ => ge_7 rfl σ τ) (r := (R_Mod, F_Mod, 37)) rfl) ⟨Nat.le_trans (Nat.le_of_ble_eq_true rfl) hR.1, Nat.le_trans (Nat.le_of_ble_eq_true rfl) hR.2⟩ rfl hl.1 rfl (Nat.le_of_ble_eq_true rfl) d_Mod_work_44 ⟨Nat.zero_le _, Nat.zero_le _⟩ (fun t H locs hp hW hS => ?_)
                subst hp
                have hW : gW g A ad np u (sH (sWk a i), x, o) H := hW
                refine lv_iinc (v := nI (i + 1)) (k := 3) hx hb d_Mod_work_47 hl rfl (nI_inc i) (by decide) rfl (fun ls hl => ?_)
                have hl : lv_has ls 4 [(3, .int (nI (i + 1))), (0, .ref (ad 74)), (1, .int (nI n)), (2, .int (a 0 28))] := hl
                refine lv_goto (tgt := 27) hx hb d_Mod_work_50 (by decide) ?_
                have e9 : sWk a (i + 1) = sH (sWk a i) := if_pos hlt
                exact ih27 (i + 1) _ _ _ (by omega) (by omega) (lv_sub hl [1, 2, 3, 0] rfl) (by rw [e9]; exact hW) hS
        exact lp27 _ 0 _ _ _ (Nat.zero_le _) (Nat.lt_succ_self _) (lv_sub hl [2, 3, 1, 0] rfl) hW hS
      · -- 15 f
        refine lv_iconst (v := (-1)) hx hb d_Mod_work_18 (by decide) ?_
        refine hret (-1) (u, (a, x, o)) _ _ _ _ ?_ hW hS d_Mod_work_19
        have e9 : pWk a w1 = false := by
          unfold pWk
          first
            | (rw [decide_eq_false (not_not_intro h4)]; rfl)
            | (rw [sIn_f1 h9, Bool.and_false])
            | (rw [sIn_f2 (Int32.not_le.mp h15), Bool.and_false])
        exact ⟨by unfold rWk; rw [if_neg (by rw [e9]; decide)], by unfold sWo; rw [if_neg (by rw [e9]; decide)]⟩
theorem C_Mod_work (l : Launch) {g : gG} {A : Nat → Prop} {ad : Nat → Nat} {np : Nat} {u : gS} {a x : gA} {o : gL} {nm : Nat} {w1 : Int32} (hw : WFw nm a) (hg : WFg nm a) : CtI l y_Mod_work b_Mod_work 4 .int 4 [.ref (ad 74), .int w1] g A ad np u (a, x, o) (fun r t => r = rWk a w1 ∧ t = (u, (sWo a w1, x, o))) := mkI (by decide) rfl (Nat.le_of_ble_eq_true rfl) (fun _ _ _ => rfl) (B_Mod_work l hw hg)

set_option maxHeartbeats 400000 in
set_option maxRecDepth 20000 in
theorem B_Mod_crash (l : Launch) {g : gG} {A : Nat → Prop} {ad : Nat → Nat} {np : Nat} {u : gS} {a x : gA} {o : gL}  : BdI l b_Mod_crash 3 R_Mod 0 [.ref (ad 74)] g A ad np u (a, x, o) (fun r t => r = rCr a ∧ t = (u, (sCra a, x, o))) := by
  intro p e R s m args below meth c Q ls X hW hS hR hl hret
  have hx := X.1.1
  have hb := X.1.2.1
  have hml := X.1.2.2.1
  have hown := X.1.2.2.2.1
  have hts := X.1.2.2.2.2
  have hK := X.2.1
  have hl : lv_has ls 3 [(0, .ref (ad 74))] := hl
  refine lv_aload_n hx hb d_Mod_crash_0 rfl (lv_at hl 0 rfl) ?_
  refine gf_Mod_73 (z := a 0 13) X hW  (gv_2_0_13 _) rfl rfl d_Mod_crash_1 ?_
  refine lv_if_ne (tgt := 9) hx hb d_Mod_crash_4 (by decide) (fun h4 => ?_) (fun h4 => ?_)
  · -- 4 t
    refine lv_aload_n hx hb d_Mod_crash_9 rfl (lv_at hl 0 rfl) ?_
    refine gf_Mod_138 (z := a 0 33) X hW  (gv_2_0_33 _) rfl rfl d_Mod_crash_10 ?_
    refine lv_istore_n hx hb d_Mod_crash_13 rfl hl (by decide) rfl (fun ls hl => ?_)
    have hl : lv_has ls 3 [(1, .int (a 0 33)), (0, .ref (ad 74))] := hl
    refine lv_aload_n hx hb d_Mod_crash_14 rfl (lv_at hl 1 rfl) ?_
    refine lv_aload_n hx hb d_Mod_crash_15 rfl (lv_at hl 1 rfl) ?_
    refine gf_Mod_147 (z := a 0 29) X hW  (gv_2_0_29 _) rfl rfl d_Mod_crash_16 ?_
    refine pf_Mod_120 (z := a 0 29) X hW hS  (gv_2_0_20 _) rfl rfl rfl d_Mod_crash_19 (fun H locs hW hS => ?_)
    have hW : gW g A ad np u (gu a 0 20 (a 0 29), x, o) H := hW
    refine lv_aload_n hx hb d_Mod_crash_22 rfl (lv_at hl 1 rfl) ?_
    refine lv_aload_n hx hb d_Mod_crash_23 rfl (lv_at hl 1 rfl) ?_
    refine gf_Mod_150 (z := a 0 30) X hW  (gv_2_0_30 _) rfl rfl d_Mod_crash_24 ?_
    refine pf_Mod_117 (z := a 0 30) X hW hS  (gv_2_0_21 _) rfl rfl rfl d_Mod_crash_27 (fun H locs hW hS => ?_)
    have hW : gW g A ad np u (gu (gu a 0 20 (a 0 29)) 0 21 (a 0 30), x, o) H := hW
    refine lv_aload_n hx hb d_Mod_crash_30 rfl (lv_at hl 1 rfl) ?_
    refine lv_aload_n hx hb d_Mod_crash_31 rfl (lv_at hl 1 rfl) ?_
    refine gf_Mod_153 (z := a 0 31) X hW  (gv_2_0_31 _) rfl rfl d_Mod_crash_32 ?_
    refine pf_Mod_89 (z := a 0 31) X hW hS  (gv_2_0_23 _) rfl rfl rfl d_Mod_crash_35 (fun H locs hW hS => ?_)
    have hW : gW g A ad np u (gu (gu (gu a 0 20 (a 0 29)) 0 21 (a 0 30)) 0 23 (a 0 31), x, o) H := hW
    refine lv_aload_n hx hb d_Mod_crash_38 rfl (lv_at hl 1 rfl) ?_
    refine lv_aload_n hx hb d_Mod_crash_39 rfl (lv_at hl 1 rfl) ?_
    refine gf_Mod_156 (z := a 0 32) X hW  (gv_2_0_32 _) rfl rfl d_Mod_crash_40 ?_
    refine pf_Mod_114 (z := a 0 32) X hW hS  (gv_2_0_25 _) rfl rfl rfl d_Mod_crash_43 (fun H locs hW hS => ?_)
    have hW : gW g A ad np u (gu (gu (gu (gu a 0 20 (a 0 29)) 0 21 (a 0 30)) 0 23 (a 0 31)) 0 25 (a 0 32), x, o) H := hW
    refine lv_aload_n hx hb d_Mod_crash_46 rfl (lv_at hl 1 rfl) ?_
    refine lv_iconst (v := 0) hx hb d_Mod_crash_47 (by decide) ?_
    refine pf_Mod_138 (z := 0) X hW hS  (gv_2_0_33 _) rfl rfl rfl d_Mod_crash_48 (fun H locs hW hS => ?_)
    have hW : gW g A ad np u (gu (gu (gu (gu (gu a 0 20 (a 0 29)) 0 21 (a 0 30)) 0 23 (a 0 31)) 0 25 (a 0 32)) 0 33 0, x, o) H := hW
    refine lv_iconst (v := 0) hx hb d_Mod_crash_51 (by decide) ?_
    refine lv_istore_n hx hb d_Mod_crash_52 rfl hl (by decide) rfl (fun ls hl => ?_)
    have hl : lv_has ls 3 [(2, .int 0), (1, .int (a 0 33)), (0, .ref (ad 74))] := hl
    have lp53 : ∀ (fuel : Nat) (i : Nat) (ls : Array Slot) (H : Heap) (locs : List Loc), (i ≤ 6) → 6 - i < fuel → lv_has ls 3 [(0, .ref (ad 74)), (1, .int (a 0 33)), (2, .int (nI i))] → gW g A ad np u (sAF (gu (gu (gu (gu (gu a 0 20 (a 0 29)) 0 21 (a 0 30)) 0 23 (a 0 31)) 0 25 (a 0 32)) 0 33 0) (a 0 26 + a 0 16) i, x, o) H → va_S A s.heap H locs → W p l e R s m args below meth c H locs 0 0 Q (F0 m 53 ls []) := by
      intro fuel
      induction fuel with
      | zero => intro i ls H locs _ hfu; exact absurd hfu (Nat.not_lt_zero _)
      | succ fuel ih53 =>
        intro i ls H locs hi hfu hl hW hS
        refine lv_iload_n hx hb d_Mod_crash_53 rfl (lv_at hl 2 rfl) ?_
        refine lv_bipush (v := 6) hx hb d_Mod_crash_54 (by decide) ?_
        refine lv_icmp_ge (tgt := 80) hx hb d_Mod_crash_56 (by decide) (fun h56 => ?_) (fun h56 => ?_)
        · -- 56 t
          have h56 : 6 ≤ i := (nI_leI (a := 6) (b := i) (by omega) (by omega)).mp h56
          refine lv_iload_n hx hb d_Mod_crash_80 rfl (lv_at hl 1 rfl) ?_
          refine hret (a 0 33) (u, (sAF (gu (gu (gu (gu (gu a 0 20 (a 0 29)) 0 21 (a 0 30)) 0 23 (a 0 31)) 0 25 (a 0 32)) 0 33 0) (a 0 26 + a 0 16) i, x, o)) _ _ _ _ ?_ hW hS d_Mod_crash_81
          unfold rCr sCra sCr
          rw [if_neg h4, if_neg h4, show i = 6 by omega, sAF_gu0 (j := 33)]
          exact ⟨rfl, rfl⟩
        · -- 56 f
          have h56 : i < 6 := Nat.lt_of_not_le fun q => h56 ((nI_leI (a := 6) (b := i) (by omega) (by omega)).mpr q)
          refine lv_aload_n hx hb d_Mod_crash_59 rfl (lv_at hl 0 rfl) ?_
          refine gf_Mod_56 X hW  d_Mod_crash_60 ?_
          refine lv_iload_n hx hb d_Mod_crash_63 rfl (lv_at hl 2 rfl) ?_
          refine lv_aload_n hx hb d_Mod_crash_64 rfl (lv_at hl 0 rfl) ?_
          refine gf_Mod_95 (z := a 0 26) X hW  (gv_2_0_26 _) rfl (congrFun (sAF_row _ _ (by decide) _) 26) d_Mod_crash_65 ?_
          refine lv_aload_n hx hb d_Mod_crash_68 rfl (lv_at hl 0 rfl) ?_
          refine gf_Mod_98 (z := a 0 16) X hW  (gv_2_0_16 _) rfl (congrFun (sAF_row _ _ (by decide) _) 16) d_Mod_crash_69 ?_
          refine lv_iadd hx hb d_Mod_crash_72 ?_
          refine gy_is (z := (a 0 26) + (a 0 16)) (q := (2, 16, i)) hx hb hK hW hS (by omega) rfl (show vp_in _ 6 from vp_in_nI (by omega) (by decide)) (gv_2_16 (by omega)) ((gi_2_16 _).trans (by rw [nI_clamp (by omega)])) d_Mod_crash_73 (fun H locs hW hS => ?_)
          have hW : gW g A ad np u (gu (sAF (gu (gu (gu (gu (gu a 0 20 (a 0 29)) 0 21 (a 0 30)) 0 23 (a 0 31)) 0 25 (a 0 32)) 0 33 0) (a 0 26 + a 0 16) i) 16 i ((a 0 26) + (a 0 16)), x, o) H := hW
          refine lv_iinc (v := nI (i + 1)) (k := 2) hx hb d_Mod_crash_74 hl rfl (nI_inc i) (by decide) rfl (fun ls hl => ?_)
          have hl : lv_has ls 3 [(2, .int (nI (i + 1))), (0, .ref (ad 74)), (1, .int (a 0 33))] := hl
          refine lv_goto (tgt := 53) hx hb d_Mod_crash_77 (by decide) ?_
          exact ih53 (i + 1) _ _ _ (by omega) (by omega) (lv_sub hl [1, 2, 0] rfl) hW hS
    exact lp53 _ 0 _ _ _ (by decide) (Nat.lt_succ_self _) (lv_sub hl [2, 1, 0] rfl) hW hS
  · -- 4 f
    refine lv_iconst (v := (-1)) hx hb d_Mod_crash_7 (by decide) ?_
    refine hret (-1) (u, (a, x, o)) _ _ _ _ ?_ hW hS d_Mod_crash_8
    unfold rCr sCra
    rw [if_pos h4, if_pos h4]
    exact ⟨rfl, rfl⟩
theorem C_Mod_crash (l : Launch) {g : gG} {A : Nat → Prop} {ad : Nat → Nat} {np : Nat} {u : gS} {a x : gA} {o : gL}  : CtI l y_Mod_crash b_Mod_crash 3 .int 0 [.ref (ad 74)] g A ad np u (a, x, o) (fun r t => r = rCr a ∧ t = (u, (sCra a, x, o))) := mkI (by decide) rfl (Nat.le_of_ble_eq_true rfl) (fun _ _ _ => rfl) (B_Mod_crash l )

set_option maxHeartbeats 400000 in
set_option maxRecDepth 20000 in
theorem B_Mod_found (l : Launch) {g : gG} {A : Nat → Prop} {ad : Nat → Nat} {np : Nat} {u : gS} {a x : gA} {o : gL} {nm : Nat} {w1 : Int32} (hw : WFw nm a) (hg : WFg nm a) : BdI l b_Mod_found 2 R_Mod 3 [.ref (ad 74), .int w1] g A ad np u (a, x, o) (fun r t => t = (u, (a, x, o)) ∧ r = rFo a w1) := by
  intro p e R s m args below meth c Q ls X hW hS hR hl hret
  have hx := X.1.1
  have hb := X.1.2.1
  have hml := X.1.2.2.1
  have hown := X.1.2.2.2.1
  have hts := X.1.2.2.2.2
  have hK := X.2.1
  have hl : lv_has ls 2 [(0, .ref (ad 74)), (1, .int w1)] := hl
  have hnp := hw.1
  have hpc := hw.2.1
  obtain ⟨hd, nq, nf, ng, mh, mq, mf, mg, hp0, -, -, -, -, -, -, -, -, -, e15, hp4, -⟩ := hg
  refine lv_aload_n hx hb d_Mod_found_0 rfl (lv_at hl 0 rfl) ?_
  refine gf_Mod_73 (z := a 0 13) X hW  (gv_2_0_13 _) rfl rfl d_Mod_found_1 ?_
  refine lv_if_eq (tgt := 24) hx hb d_Mod_found_4 (by decide) (fun h4 => ?_) (fun h4 => ?_)
  · -- 4 t
    refine lv_iconst (v := (-1)) hx hb d_Mod_found_24 (by decide) ?_
    refine hret (-1) (u, (a, x, o)) _ _ _ _ ?_ hW hS d_Mod_found_25
    exact ⟨rfl, by unfold rFo; rw [if_pos (by first | exact Or.inl h4 | exact Or.inr h12)]⟩
  · -- 4 f
    refine lv_aload_n hx hb d_Mod_found_7 rfl (lv_at hl 0 rfl) ?_
    refine lv_iload_n hx hb d_Mod_found_8 rfl (lv_at hl 1 rfl) ?_
    refine gc_iV (As := [.int w1]) (b := ad 74) (rest := []) X cw_Mod_78 (C_Mod_isPage l (u := u) (a := a) (x := x) (o := o) (w := w1)) hW hS (gW_recv (ci := 7) (fs := gf7 ad) hK hW (by omega) (fun σ τ => ge_7 rfl σ τ) (r := (R_Mod, F_Mod, 37)) rfl) ⟨Nat.le_trans (Nat.le_of_ble_eq_true rfl) hR.1, Nat.le_trans (Nat.le_of_ble_eq_true rfl) hR.2⟩ rfl hl.1 rfl (Nat.le_of_ble_eq_true rfl) d_Mod_found_9 ⟨Nat.zero_le _, Nat.zero_le _⟩ (fun r t H locs hp hW hS => ?_)
    obtain ⟨rfl, rfl⟩ := hp
    have hW : gW g A ad np u (a, x, o) H := hW
    refine lv_if_eq (tgt := 24) hx hb d_Mod_found_12 (by decide) (fun h12 => ?_) (fun h12 => ?_)
    · -- 12 t
      have h12 : (sIs a w1) = false := bI_0 h12
      refine lv_iconst (v := (-1)) hx hb d_Mod_found_24 (by decide) ?_
      refine hret (-1) (u, (a, x, o)) _ _ _ _ ?_ hW hS d_Mod_found_25
      exact ⟨rfl, by unfold rFo; rw [if_pos (by first | exact Or.inl h4 | exact Or.inr h12)]⟩
    · -- 12 f
      have h12 : (sIs a w1) = true := bI_n0 h12
      have h12a := h12
      obtain ⟨P, hP, rfl⟩ := sIs_of hpc hnp h12
      refine lv_aload_n hx hb d_Mod_found_15 rfl (lv_at hl 0 rfl) ?_
      refine lv_iload_n hx hb d_Mod_found_16 rfl (lv_at hl 1 rfl) ?_
      refine lv_iconst (v := 0) hx hb d_Mod_found_17 (by decide) ?_
      refine gc_iV (As := [.int (nI P), .int 0]) (b := ad 74) (rest := []) X cw_Mod_123 (C_Mod_chase0 l (u := u) (a := a) (x := x) (o := o) (nm := nm) (P := P) hw e15 hp4 hP) hW hS (gW_recv (ci := 7) (fs := gf7 ad) hK hW (by omega) (fun σ τ => ge_7 rfl σ τ) (r := (R_Mod, F_Mod, 37)) rfl) ⟨Nat.le_trans (Nat.le_of_ble_eq_true rfl) hR.1, Nat.le_trans (Nat.le_of_ble_eq_true rfl) hR.2⟩ rfl hl.1 rfl (Nat.le_of_ble_eq_true rfl) d_Mod_found_18 ⟨Nat.zero_le _, Nat.zero_le _⟩ (fun r t H locs hp hW hS => ?_)
      obtain ⟨rfl, rfl⟩ := hp
      have hW : gW g A ad np u (a, x, o) H := hW
      refine lv_goto (tgt := 25) hx hb d_Mod_found_21 (by decide) ?_
      refine hret (sC2 a (hp0 + 1) P) (u, (a, x, o)) _ _ _ _ ?_ hW hS d_Mod_found_25
      exact ⟨rfl, by unfold rFo; rw [if_neg (fun q => q.elim h4 (fun z => by rw [h12a] at z; cases z)), cn_of e15 (by omega), nI_clamp (by omega)]⟩
theorem C_Mod_found (l : Launch) {g : gG} {A : Nat → Prop} {ad : Nat → Nat} {np : Nat} {u : gS} {a x : gA} {o : gL} {nm : Nat} {w1 : Int32} (hw : WFw nm a) (hg : WFg nm a) : CtI l y_Mod_found b_Mod_found 2 .int 3 [.ref (ad 74), .int w1] g A ad np u (a, x, o) (fun r t => t = (u, (a, x, o)) ∧ r = rFo a w1) := mkI (by decide) rfl (Nat.le_of_ble_eq_true rfl) (fun _ _ _ => rfl) (B_Mod_found l hw hg)

set_option maxHeartbeats 400000 in
set_option maxRecDepth 20000 in
theorem B_Mod_clock (l : Launch) {g : gG} {A : Nat → Prop} {ad : Nat → Nat} {np : Nat} {u : gS} {a x : gA} {o : gL}  : BdI l b_Mod_clock 1 R_Mod 0 [.ref (ad 74)] g A ad np u (a, x, o) (fun r t => t = (u, (a, x, o)) ∧ r = if a 0 13 = 0 then 0 else a 0 26) := by
  intro p e R s m args below meth c Q ls X hW hS hR hl hret
  have hx := X.1.1
  have hb := X.1.2.1
  have hml := X.1.2.2.1
  have hown := X.1.2.2.2.1
  have hts := X.1.2.2.2.2
  have hK := X.2.1
  have hl : lv_has ls 1 [(0, .ref (ad 74))] := hl
  refine lv_aload_n hx hb d_Mod_clock_0 rfl (lv_at hl 0 rfl) ?_
  refine gf_Mod_73 (z := a 0 13) X hW  (gv_2_0_13 _) rfl rfl d_Mod_clock_1 ?_
  refine lv_if_eq (tgt := 14) hx hb d_Mod_clock_4 (by decide) (fun h4 => ?_) (fun h4 => ?_)
  · -- 4 t
    refine lv_iconst (v := 0) hx hb d_Mod_clock_14 (by decide) ?_
    refine hret 0 (u, (a, x, o)) _ _ _ _ ?_ hW hS d_Mod_clock_15
    first | exact ⟨rfl, by rw [if_pos h4]⟩ | exact ⟨rfl, by rw [if_neg h4]⟩
  · -- 4 f
    refine lv_aload_n hx hb d_Mod_clock_7 rfl (lv_at hl 0 rfl) ?_
    refine gf_Mod_95 (z := a 0 26) X hW  (gv_2_0_26 _) rfl rfl d_Mod_clock_8 ?_
    refine lv_goto (tgt := 15) hx hb d_Mod_clock_11 (by decide) ?_
    refine hret (a 0 26) (u, (a, x, o)) _ _ _ _ ?_ hW hS d_Mod_clock_15
    first | exact ⟨rfl, by rw [if_pos h4]⟩ | exact ⟨rfl, by rw [if_neg h4]⟩
theorem C_Mod_clock (l : Launch) {g : gG} {A : Nat → Prop} {ad : Nat → Nat} {np : Nat} {u : gS} {a x : gA} {o : gL}  : CtI l y_Mod_clock b_Mod_clock 1 .int 0 [.ref (ad 74)] g A ad np u (a, x, o) (fun r t => t = (u, (a, x, o)) ∧ r = if a 0 13 = 0 then 0 else a 0 26) := mkI (by decide) rfl (Nat.le_of_ble_eq_true rfl) (fun _ _ _ => rfl) (B_Mod_clock l )

set_option maxHeartbeats 400000 in
set_option maxRecDepth 20000 in
theorem B_Mod_fetches (l : Launch) {g : gG} {A : Nat → Prop} {ad : Nat → Nat} {np : Nat} {u : gS} {a x : gA} {o : gL}  : BdI l b_Mod_fetches 1 R_Mod 0 [.ref (ad 74)] g A ad np u (a, x, o) (fun r t => t = (u, (a, x, o)) ∧ r = if a 0 13 = 0 then 0 else a 0 28) := by
  intro p e R s m args below meth c Q ls X hW hS hR hl hret
  have hx := X.1.1
  have hb := X.1.2.1
  have hml := X.1.2.2.1
  have hown := X.1.2.2.2.1
  have hts := X.1.2.2.2.2
  have hK := X.2.1
  have hl : lv_has ls 1 [(0, .ref (ad 74))] := hl
  refine lv_aload_n hx hb d_Mod_fetches_0 rfl (lv_at hl 0 rfl) ?_
  refine gf_Mod_73 (z := a 0 13) X hW  (gv_2_0_13 _) rfl rfl d_Mod_fetches_1 ?_
  refine lv_if_eq (tgt := 14) hx hb d_Mod_fetches_4 (by decide) (fun h4 => ?_) (fun h4 => ?_)
  · -- 4 t
    refine lv_iconst (v := 0) hx hb d_Mod_fetches_14 (by decide) ?_
    refine hret 0 (u, (a, x, o)) _ _ _ _ ?_ hW hS d_Mod_fetches_15
    first | exact ⟨rfl, by rw [if_pos h4]⟩ | exact ⟨rfl, by rw [if_neg h4]⟩
  · -- 4 f
    refine lv_aload_n hx hb d_Mod_fetches_7 rfl (lv_at hl 0 rfl) ?_
    refine gf_Mod_101 (z := a 0 28) X hW  (gv_2_0_28 _) rfl rfl d_Mod_fetches_8 ?_
    refine lv_goto (tgt := 15) hx hb d_Mod_fetches_11 (by decide) ?_
    refine hret (a 0 28) (u, (a, x, o)) _ _ _ _ ?_ hW hS d_Mod_fetches_15
    first | exact ⟨rfl, by rw [if_pos h4]⟩ | exact ⟨rfl, by rw [if_neg h4]⟩
theorem C_Mod_fetches (l : Launch) {g : gG} {A : Nat → Prop} {ad : Nat → Nat} {np : Nat} {u : gS} {a x : gA} {o : gL}  : CtI l y_Mod_fetches b_Mod_fetches 1 .int 0 [.ref (ad 74)] g A ad np u (a, x, o) (fun r t => t = (u, (a, x, o)) ∧ r = if a 0 13 = 0 then 0 else a 0 28) := mkI (by decide) rfl (Nat.le_of_ble_eq_true rfl) (fun _ _ _ => rfl) (B_Mod_fetches l )

set_option maxHeartbeats 400000 in
set_option maxRecDepth 20000 in
theorem B_Mod_waiting (l : Launch) {g : gG} {A : Nat → Prop} {ad : Nat → Nat} {np : Nat} {u : gS} {a x : gA} {o : gL}  : BdI l b_Mod_waiting 1 R_Mod 0 [.ref (ad 74)] g A ad np u (a, x, o) (fun r t => t = (u, (a, x, o)) ∧ r = if a 0 13 = 0 then 0 else a 0 21 - a 0 20) := by
  intro p e R s m args below meth c Q ls X hW hS hR hl hret
  have hx := X.1.1
  have hb := X.1.2.1
  have hml := X.1.2.2.1
  have hown := X.1.2.2.2.1
  have hts := X.1.2.2.2.2
  have hK := X.2.1
  have hl : lv_has ls 1 [(0, .ref (ad 74))] := hl
  refine lv_aload_n hx hb d_Mod_waiting_0 rfl (lv_at hl 0 rfl) ?_
  refine gf_Mod_73 (z := a 0 13) X hW  (gv_2_0_13 _) rfl rfl d_Mod_waiting_1 ?_
  refine lv_if_eq (tgt := 19) hx hb d_Mod_waiting_4 (by decide) (fun h4 => ?_) (fun h4 => ?_)
  · -- 4 t
    refine lv_iconst (v := 0) hx hb d_Mod_waiting_19 (by decide) ?_
    refine hret 0 (u, (a, x, o)) _ _ _ _ ?_ hW hS d_Mod_waiting_20
    first | exact ⟨rfl, by rw [if_pos h4]⟩ | exact ⟨rfl, by rw [if_neg h4]⟩
  · -- 4 f
    refine lv_aload_n hx hb d_Mod_waiting_7 rfl (lv_at hl 0 rfl) ?_
    refine gf_Mod_117 (z := a 0 21) X hW  (gv_2_0_21 _) rfl rfl d_Mod_waiting_8 ?_
    refine lv_aload_n hx hb d_Mod_waiting_11 rfl (lv_at hl 0 rfl) ?_
    refine gf_Mod_120 (z := a 0 20) X hW  (gv_2_0_20 _) rfl rfl d_Mod_waiting_12 ?_
    refine lv_isub hx hb d_Mod_waiting_15 ?_
    refine lv_goto (tgt := 20) hx hb d_Mod_waiting_16 (by decide) ?_
    refine hret ((a 0 21) - (a 0 20)) (u, (a, x, o)) _ _ _ _ ?_ hW hS d_Mod_waiting_20
    first | exact ⟨rfl, by rw [if_pos h4]⟩ | exact ⟨rfl, by rw [if_neg h4]⟩
theorem C_Mod_waiting (l : Launch) {g : gG} {A : Nat → Prop} {ad : Nat → Nat} {np : Nat} {u : gS} {a x : gA} {o : gL}  : CtI l y_Mod_waiting b_Mod_waiting 1 .int 0 [.ref (ad 74)] g A ad np u (a, x, o) (fun r t => t = (u, (a, x, o)) ∧ r = if a 0 13 = 0 then 0 else a 0 21 - a 0 20) := mkI (by decide) rfl (Nat.le_of_ble_eq_true rfl) (fun _ _ _ => rfl) (B_Mod_waiting l )

set_option maxHeartbeats 400000 in
set_option maxRecDepth 20000 in
theorem B_Mod_corpusAt (l : Launch) {g : gG} {A : Nat → Prop} {ad : Nat → Nat} {np : Nat} {u : gS} {a x : gA} {o : gL} {nm : Nat} {w1 : Int32} (hnp : nm ≤ 32) (hg : WFg nm a) : BdI l b_Mod_corpusAt 2 R_Mod 0 [.ref (ad 74), .int w1] g A ad np u (a, x, o) (fun r t => t = (u, (a, x, o)) ∧ r = rAt a w1) := by
  intro p e R s m args below meth c Q ls X hW hS hR hl hret
  have hx := X.1.1
  have hb := X.1.2.1
  have hml := X.1.2.2.1
  have hown := X.1.2.2.2.1
  have hts := X.1.2.2.2.2
  have hK := X.2.1
  have hl : lv_has ls 2 [(0, .ref (ad 74)), (1, .int w1)] := hl
  obtain ⟨hd, nq, nf, ng, mh, mq, mf, mg, hp0, -, -, -, e25, -, -, -, -, -, -, -, -, -, -, -, -, -, -, -, d15⟩ := hg
  have hng := dst_le d15 hnp
  refine lv_aload_n hx hb d_Mod_corpusAt_0 rfl (lv_at hl 0 rfl) ?_
  refine gf_Mod_73 (z := a 0 13) X hW  (gv_2_0_13 _) rfl rfl d_Mod_corpusAt_1 ?_
  refine lv_if_eq (tgt := 28) hx hb d_Mod_corpusAt_4 (by decide) (fun h4 => ?_) (fun h4 => ?_)
  · -- 4 t
    refine lv_iconst (v := (-1)) hx hb d_Mod_corpusAt_28 (by decide) ?_
    refine hret (-1) (u, (a, x, o)) _ _ _ _ ?_ hW hS d_Mod_corpusAt_29
    unfold rAt
    first
      | exact ⟨rfl, by rw [if_pos h4]⟩
      | exact ⟨rfl, by rw [if_neg h4, if_neg (fun q => absurd q.1 (Int32.not_le.mpr h8))]⟩
      | exact ⟨rfl, by rw [if_neg h4, e25, if_neg (fun q => absurd q.2 (Int32.not_lt.mpr h16))]⟩
  · -- 4 f
    refine lv_iload_n hx hb d_Mod_corpusAt_7 rfl (lv_at hl 1 rfl) ?_
    refine lv_if_lt (tgt := 28) hx hb d_Mod_corpusAt_8 (by decide) (fun h8 => ?_) (fun h8 => ?_)
    · -- 8 t
      refine lv_iconst (v := (-1)) hx hb d_Mod_corpusAt_28 (by decide) ?_
      refine hret (-1) (u, (a, x, o)) _ _ _ _ ?_ hW hS d_Mod_corpusAt_29
      unfold rAt
      first
        | exact ⟨rfl, by rw [if_pos h4]⟩
        | exact ⟨rfl, by rw [if_neg h4, if_neg (fun q => absurd q.1 (Int32.not_le.mpr h8))]⟩
        | exact ⟨rfl, by rw [if_neg h4, e25, if_neg (fun q => absurd q.2 (Int32.not_lt.mpr h16))]⟩
    · -- 8 f
      refine lv_iload_n hx hb d_Mod_corpusAt_11 rfl (lv_at hl 1 rfl) ?_
      refine lv_aload_n hx hb d_Mod_corpusAt_12 rfl (lv_at hl 0 rfl) ?_
      refine gf_Mod_114 (z := nI ng) X hW  (gv_2_0_25 _) rfl e25 d_Mod_corpusAt_13 ?_
      refine lv_icmp_ge (tgt := 28) hx hb d_Mod_corpusAt_16 (by decide) (fun h16 => ?_) (fun h16 => ?_)
      · -- 16 t
        refine lv_iconst (v := (-1)) hx hb d_Mod_corpusAt_28 (by decide) ?_
        refine hret (-1) (u, (a, x, o)) _ _ _ _ ?_ hW hS d_Mod_corpusAt_29
        unfold rAt
        first
          | exact ⟨rfl, by rw [if_pos h4]⟩
          | exact ⟨rfl, by rw [if_neg h4, if_neg (fun q => absurd q.1 (Int32.not_le.mpr h8))]⟩
          | exact ⟨rfl, by rw [if_neg h4, e25, if_neg (fun q => absurd q.2 (Int32.not_lt.mpr h16))]⟩
      · -- 16 f
        obtain ⟨j, hj, rfl⟩ : ∃ j : Nat, j < ng ∧ w1 = nI j := by
          rcases pk_ix w1 (n := ng) (by omega) with q | q | q
          · exact absurd q h8
          · exact absurd q h16
          · exact q
        refine lv_aload_n hx hb d_Mod_corpusAt_19 rfl (lv_at hl 0 rfl) ?_
        refine gf_Mod_53 X hW  d_Mod_corpusAt_20 ?_
        refine lv_iload_n hx hb d_Mod_corpusAt_23 rfl (lv_at hl 1 rfl) ?_
        refine gy_ia (z := a 15 j) (q := (2, 15, j)) hx hb hK hW (by omega) rfl (show vp_in _ 32 from vp_in_nI (by omega) (by decide)) (gv_2_15 (by omega)) ((gi_2_15 _).trans (by rw [nI_clamp (by omega)])) rfl d_Mod_corpusAt_24 ?_
        refine lv_goto (tgt := 29) hx hb d_Mod_corpusAt_25 (by decide) ?_
        refine hret (a 15 j) (u, (a, x, o)) _ _ _ _ ?_ hW hS d_Mod_corpusAt_29
        unfold rAt
        exact ⟨rfl, by rw [if_neg h4, e25, if_pos ⟨nI_pos' (by omega), nI_lt hj (by omega)⟩, nI_clamp (by omega)]⟩
theorem C_Mod_corpusAt (l : Launch) {g : gG} {A : Nat → Prop} {ad : Nat → Nat} {np : Nat} {u : gS} {a x : gA} {o : gL} {nm : Nat} {w1 : Int32} (hnp : nm ≤ 32) (hg : WFg nm a) : CtI l y_Mod_corpusAt b_Mod_corpusAt 2 .int 0 [.ref (ad 74), .int w1] g A ad np u (a, x, o) (fun r t => t = (u, (a, x, o)) ∧ r = rAt a w1) := mkI (by decide) rfl (Nat.le_of_ble_eq_true rfl) (fun _ _ _ => rfl) (B_Mod_corpusAt l hnp hg)

