/-! specs_gat2 -/
def sB0 (a : gA) (w1 w2 w3 w4 : Int32) : gA := gu (gu (gu (gu (gu (gu (gu (gu (gu (gu a 0 14 w1) 0 15 w2) 0 16 w3) 0 17 w4) 0 21 (nI 0)) 0 23 (nI 0)) 0 25 (nI 0)) 0 20 0) 0 26 0) 0 28 0
def sSt (a : gA) (w1 w2 w3 w4 : Int32) : gA := sMk (sQA (a 11) 0 (sAF (sB0 a w1 w2 w3 w4) 0 6) (cn a 12))
def sCr (a : gA) : gA := gu (sAF (gu (gu (gu (gu a 0 20 (a 0 29)) 0 21 (a 0 30)) 0 23 (a 0 31)) 0 25 (a 0 32)) (a 0 26 + a 0 16) 6) 0 33 0
theorem sAF_row (a : gA) (w : Int32) {r : Nat} (h : r ≠ 16) : ∀ n, sAF a w n r = a r
  | 0 => rfl
  | n + 1 => by
    show gu (sAF a w n) 16 n w r = a r
    rw [gu_ne h, sAF_row a w h n]
theorem dst_0 (f : Nat → Int32) (np : Nat) : dst f 0 np := ⟨fun i h => absurd h (Nat.not_lt_zero _), fun i j h => absurd h (Nat.not_lt_zero _)⟩
set_option maxHeartbeats 400000 in
set_option maxRecDepth 20000 in
theorem B_Gat_handleEntry (l : Launch) {g : gG} {A : Nat → Prop} {ad : Nat → Nat} {np : Nat} {a x : gA} {o : gL} {v : gS} (hw : WFw np a) (hwx : WX np a x) (hg : WFg np a) (hlt : cn a 20 < cn a 21) : BdV l b_Gat_handleEntry 4 R_Gat 4 [.ref (ad 24)] g A ad np (a, x, o) v (fun t => ∃ x', t = ((sH a, x', o), v) ∧ WX np (sH a) x') := by
  intro p e R s m args below meth c Q ls X hW hS hR hl hret
  have hx := X.1.1
  have hb := X.1.2.1
  have hml := X.1.2.2.1
  have hown := X.1.2.2.2.1
  have hts := X.1.2.2.2.2
  have hK := X.2.1
  have hl : lv_has ls 4 [(0, .ref (ad 24))] := hl
  have hnp := hw.1
  obtain ⟨hd, nq, nf, ng, mh, mq, mf, mg, hp0, e20, e21, e23, e25, e29, e30, e31, e32, e33, e15, hp4, hdq, mhd, mhq, mqq, mff, mgg, d12, d14, d15⟩ := hg
  have hnq := dst_le d12 hnp
  have hng := dst_le d15 hnp
  rw [cn_of e20 (by omega), cn_of e21 (by omega)] at hlt
  obtain ⟨P, hP, eP⟩ := d12.1 hd hlt
  have hw1 : WFw np (gu a 0 20 (nI (hd + 1))) := WFw_wk (wk_sc (by decide)) hw
  refine lv_aload_n hx hb d_Gat_handleEntry_0 rfl (lv_at hl 0 rfl) ?_
  refine gf_Gat_20 X hW  d_Gat_handleEntry_1 ?_
  refine lv_aload_n hx hb d_Gat_handleEntry_4 rfl (lv_at hl 0 rfl) ?_
  refine gf_Gat_53 (z := nI hd) X hW  (gv_0_0_20 _) rfl e20 d_Gat_handleEntry_5 ?_
  refine gc_iV (As := [.int (nI hd)]) (b := ad 25) (rest := []) X cw_Gat_80 (C_Row_at l (u := (a, x, o)) (v := v) (x := nI hd) (n := nq) (f := a 12) (gRow_25 np) e21 (by omega) (fun i _ => rfl)) hW hS (gW_recv (ci := 3) (fs := gf3 ad 25) hK hW (by omega) (fun σ τ => ge_3 rfl σ τ) (r := (R_Row, F_Row, 2)) rfl) ⟨Nat.le_trans (Nat.le_of_ble_eq_true rfl) hR.1, Nat.le_trans (Nat.le_of_ble_eq_true rfl) hR.2⟩ rfl hl.1 rfl (Nat.le_of_ble_eq_true rfl) d_Gat_handleEntry_8 ⟨Nat.zero_le _, Nat.zero_le _⟩ (fun r t H locs hp hW hS => ?_)
  obtain ⟨rfl, hr9⟩ := hp
  rw [at_in hlt (by omega), eP] at hr9
  subst hr9
  have hW : gW g A ad np (a, x, o) v H := hW
  refine lv_istore_n hx hb d_Gat_handleEntry_11 rfl hl (by decide) rfl (fun ls hl => ?_)
  have hl : lv_has ls 4 [(1, .int (nI P)), (0, .ref (ad 24))] := hl
  refine lv_aload_n hx hb d_Gat_handleEntry_12 rfl (lv_at hl 1 rfl) ?_
  refine gf_Gat_24 X hW  d_Gat_handleEntry_13 ?_
  refine lv_aload_n hx hb d_Gat_handleEntry_16 rfl (lv_at hl 1 rfl) ?_
  refine gf_Gat_53 (z := nI hd) X hW  (gv_0_0_20 _) rfl e20 d_Gat_handleEntry_17 ?_
  refine gc_iV (As := [.int (nI hd)]) (b := ad 27) (rest := []) X cw_Gat_80 (C_Row_at l (u := (a, x, o)) (v := v) (x := nI hd) (n := nq) (f := a 13) (gRow_27 np) (hwx.2.1.trans e21) (by omega) (fun i _ => rfl)) hW hS (gW_recv (ci := 3) (fs := gf3 ad 27) hK hW (by omega) (fun σ τ => ge_3 rfl σ τ) (r := (R_Row, F_Row, 2)) rfl) ⟨Nat.le_trans (Nat.le_of_ble_eq_true rfl) hR.1, Nat.le_trans (Nat.le_of_ble_eq_true rfl) hR.2⟩ rfl hl.1 rfl (Nat.le_of_ble_eq_true rfl) d_Gat_handleEntry_20 ⟨Nat.zero_le _, Nat.zero_le _⟩ (fun r t H locs hp hW hS => ?_)
  obtain ⟨rfl, hr9⟩ := hp
  rw [at_in hlt (by omega)] at hr9
  subst hr9
  have hW : gW g A ad np (a, x, o) v H := hW
  refine lv_istore_n hx hb d_Gat_handleEntry_23 rfl hl (by decide) rfl (fun ls hl => ?_)
  have hl : lv_has ls 4 [(2, .int (a 13 hd)), (1, .int (nI P)), (0, .ref (ad 24))] := hl
  refine lv_aload_n hx hb d_Gat_handleEntry_24 rfl (lv_at hl 2 rfl) ?_
  refine lv_dup hx hb d_Gat_handleEntry_25 rfl ?_
  refine gf_Gat_53 (z := nI hd) X hW  (gv_0_0_20 _) rfl e20 d_Gat_handleEntry_26 ?_
  refine lv_iconst (v := 1) hx hb d_Gat_handleEntry_29 (by decide) ?_
  refine lv_iadd hx hb d_Gat_handleEntry_30 ?_
  rw [show (nI hd) + 1 = nI (hd + 1) from nI_1 hd]
  refine pf_Gat_53 (z := nI (hd + 1)) X hW hS  (gv_0_0_20 _) rfl rfl rfl d_Gat_handleEntry_31 (fun H locs hW hS => ?_)
  have hW : gW g A ad np (gu a 0 20 (nI (hd + 1)), x, o) v H := hW
  refine lv_aload_n hx hb d_Gat_handleEntry_34 rfl (lv_at hl 2 rfl) ?_
  refine lv_iload_n hx hb d_Gat_handleEntry_35 rfl (lv_at hl 1 rfl) ?_
  refine lv_iconst (v := 1) hx hb d_Gat_handleEntry_36 (by decide) ?_
  refine gc_iV (As := [.int (nI P), .int 1]) (b := ad 24) (rest := []) X cw_Gat_84 (C_Gat_chase1 l (a := gu a 0 20 (nI (hd + 1))) (x := x) (o := o) (v := v) (P := P) hw1 hwx e15 hp4 hP e23 d14) hW hS (gW_recv (ci := 5) (fs := gf5 ad) hK hW (by omega) (fun σ τ => ge_5 rfl σ τ) (r := (R_Gat, F_Gat, 17)) rfl) ⟨Nat.le_trans (Nat.le_of_ble_eq_true rfl) hR.1, Nat.le_trans (Nat.le_of_ble_eq_true rfl) hR.2⟩ rfl hl.1 rfl (Nat.le_of_ble_eq_true rfl) d_Gat_handleEntry_37 ⟨Nat.zero_le _, Nat.zero_le _⟩ (fun qv t H locs hp hW hS => ?_)
  obtain ⟨rfl, hqv⟩ := hp
  obtain ⟨a2, ha2⟩ : ∃ z, z = sF2 (hp0 + 1) (gu a 0 20 (nI (hd + 1))) P := ⟨_, rfl⟩
  rw [← ha2] at hW
  have hw2 : WFw np a2 := by rw [ha2]; exact WFw_wk (wk_sF2 _ _ _) hw1
  have s2 : ∀ j, j ≠ 26 → j ≠ 23 → j ≠ 28 → a2 0 j = gu a 0 20 (nI (hd + 1)) 0 j := fun j p1 p2 p3 => by rw [ha2]; exact sF2_sc _ _ _ p1 p2 p3
  have r2 : ∀ r, r ≠ 0 → r ≠ 14 → r ≠ 16 → a2 r = a r := fun r p1 p2 p3 => by rw [ha2, sF2_row _ _ _ p1 p2 p3]; exact gu_ne p1
  have g21 : a2 0 21 = nI nq := (s2 21 (by decide) (by decide) (by decide)).trans e21
  have g25 : a2 0 25 = nI ng := (s2 25 (by decide) (by decide) (by decide)).trans e25
  have hcn : cn a2 25 = ng := cn_of g25 (by omega)
  have hsH : sH a = sH4 (sH3 a2 qv (a 13 hd)) := by unfold sH; rw [cn_of e20 (by omega), cn_of e15 (by omega), eP, nI_clamp (by omega), ← ha2, ← hqv]
  have hW : gW g A ad np (a2, x, o) v H := hW
  refine lv_istore_n hx hb d_Gat_handleEntry_40 rfl hl (by decide) rfl (fun ls hl => ?_)
  have hl : lv_has ls 4 [(3, .int qv), (2, .int (a 13 hd)), (1, .int (nI P)), (0, .ref (ad 24))] := hl
  have jn93 : ∀ (a3 : gA) (x3 : gA) (ls : Array Slot) (H : Heap) (locs : List Loc), (a3 = sH3 a2 qv (a 13 hd)) → (∀ r j, ¬ (r = 2 ∧ j = 0) → x3 r j = x r j) → (x3 2 0 = a3 0 21) → lv_has ls 4 [(0, .ref (ad 24))] → gW g A ad np (a3, x3, o) v H → va_S A s.heap H locs → W p l e R s m args below meth c H locs 0 0 Q (F0 m 93 ls []) := by
    intro a3 x3 ls H locs ha3 hx3 hx4 hl hW hS
    have s3 : ∀ j, j ≠ 25 → j ≠ 21 → a3 0 j = a2 0 j := fun j p1 p2 => by rw [ha3]; exact sH3_sc p1 p2
    have t20 : a3 0 20 = nI (hd + 1) := (s3 20 (by decide) (by decide)).trans (s2 20 (by decide) (by decide) (by decide))
    have t29 : a3 0 29 = nI mh := (s3 29 (by decide) (by decide)).trans ((s2 29 (by decide) (by decide) (by decide)).trans e29)
    have t33 : a3 0 33 + 1 = nI (hd + 1 - mh) := by
      rw [(s3 33 (by decide) (by decide)).trans ((s2 33 (by decide) (by decide) (by decide)).trans e33), nI_1]
      congr 1
      omega
    rw [← ha3] at hsH
    have hwk3 : wk a a3 := by rw [ha3]; exact wk_tr (wk_tr (wk_sc (j := 20) (z := nI (hd + 1)) (by decide)) (by rw [ha2]; exact wk_sF2 _ _ _)) (wk_sH3 _ _ _)
    have hWX : ∀ a4 : gA, wk a3 a4 → a4 0 21 = a3 0 21 → WX np a4 x3 := fun a4 k1 k2 => by
      have k3 : a4 3 = a 3 := (k1.1 3 (by decide) (by decide)).trans (hwk3.1 3 (by decide) (by decide))
      refine ⟨fun p hp => ?_, by rw [k2]; exact hx4, ?_⟩
      · rw [k3, hx3 0 p (by omega), hx3 1 p (by omega)]; exact hwx.1 p hp
      · rw [hx3 2 1 (by omega)]; exact hwx.2.2
    have hW := gW_33 (a3 0 33 + 1) hW
    refine lv_aload_n hx hb d_Gat_handleEntry_93 rfl (lv_at hl 0 rfl) ?_
    refine gf_Gat_53 (z := nI (hd + 1)) X hW  (gv_0_0_20 _) rfl t20 d_Gat_handleEntry_94 ?_
    refine lv_aload_n hx hb d_Gat_handleEntry_97 rfl (lv_at hl 0 rfl) ?_
    refine gf_Gat_104 (z := nI mh) X hW  (gv_0_0_29 _) rfl t29 d_Gat_handleEntry_98 ?_
    refine lv_isub hx hb d_Gat_handleEntry_101 ?_
    rw [show (nI (hd + 1)) - (nI mh) = nI (hd + 1 - mh) from pk_sub (by omega)]
    refine lv_aload_n hx hb d_Gat_handleEntry_102 rfl (lv_at hl 0 rfl) ?_
    refine gf_Gat_47 (z := a3 0 17) X hW  (gv_0_0_17 _) rfl rfl d_Gat_handleEntry_103 ?_
    refine lv_icmp_ne (tgt := 113) hx hb d_Gat_handleEntry_106 (by decide) (fun h106 => ?_) (fun h106 => ?_)
    · -- 106 t
      refine hret ((gu a3 0 33 (a3 0 33 + 1), x3, o), v) _ _ _ _ ?_ hW hS d_Gat_handleEntry_113
      refine ⟨x3, by rw [hsH]; unfold sH4; rw [if_neg (fun q => h106 (t33.symm.trans q))], ?_⟩
      rw [hsH]; unfold sH4; rw [if_neg (fun q => h106 (t33.symm.trans q))]; exact hWX _ (wk_sc (by decide)) rfl
    · -- 106 f
      refine lv_aload_n hx hb d_Gat_handleEntry_109 rfl (lv_at hl 0 rfl) ?_
      refine gc_vV (As := []) (b := ad 24) (rest := []) X cw_Gat_74 (C_Gat_setMark l (a := gu a3 0 33 (a3 0 33 + 1)) (x := x3) (o := o) (v := v)) hW hS (gW_recv (ci := 5) (fs := gf5 ad) hK hW (by omega) (fun σ τ => ge_5 rfl σ τ) (r := (R_Gat, F_Gat, 17)) rfl) ⟨Nat.le_trans (Nat.le_of_ble_eq_true rfl) hR.1, Nat.le_trans (Nat.le_of_ble_eq_true rfl) hR.2⟩ rfl hl.1 rfl (Nat.le_of_ble_eq_true rfl) d_Gat_handleEntry_110 ⟨Nat.zero_le _, Nat.zero_le _⟩ (fun t H locs hp hW hS => ?_)
      subst hp
      have hW : gW g A ad np (sMk (gu a3 0 33 (a3 0 33 + 1)), x3, o) v H := hW
      refine hret ((sMk (gu a3 0 33 (a3 0 33 + 1)), x3, o), v) _ _ _ _ ?_ hW hS d_Gat_handleEntry_113
      refine ⟨x3, by rw [hsH]; unfold sH4; rw [if_pos (t33.trans h106)], ?_⟩
      rw [hsH]; unfold sH4; rw [if_pos (t33.trans h106)]; exact hWX _ (wk_tr (wk_sc (by decide)) (wk_sMk _)) rfl
  refine lv_iload_n hx hb d_Gat_handleEntry_41 rfl (lv_at hl 0 rfl) ?_
  refine lv_iconst (v := (-1)) hx hb d_Gat_handleEntry_42 (by decide) ?_
  refine lv_icmp_eq (tgt := 93) hx hb d_Gat_handleEntry_43 (by decide) (fun h43 => ?_) (fun h43 => ?_)
  · -- 43 t
    exact jn93 a2 x _ _ _ (by unfold sH3; rw [hcn, if_pos (by first | exact Or.inl h43 | exact Or.inr h54)]) (fun _ _ _ => rfl) (hwx.2.1.trans (s2 21 (by decide) (by decide) (by decide)).symm) (lv_sub hl [3] rfl) hW hS
  · -- 43 f
    obtain ⟨Q1, hQ1, hqQ⟩ : ∃ Q1, Q1 < np ∧ qv = nI Q1 := (sC2_pg hw1 (hp0 + 1) P hP).elim (fun e => absurd (hqv.trans e) h43) (fun ⟨q, h1, h2⟩ => ⟨q, h1, hqv.trans h2⟩)
    refine lv_aload_n hx hb d_Gat_handleEntry_46 rfl (lv_at hl 3 rfl) ?_
    refine gf_Gat_30 X hW  d_Gat_handleEntry_47 ?_
    refine lv_iload_n hx hb d_Gat_handleEntry_50 rfl (lv_at hl 0 rfl) ?_
    refine gc_iV (As := [.int qv]) (b := ad 31) (rest := []) X cw_Gat_88 (C_Row_holds l (u := (a2, x, o)) (v := v) (x := qv) (n := ng) (f := a2 15) (gRow_31 np) g25 (by omega) (fun i _ => rfl)) hW hS (gW_recv (ci := 3) (fs := gf3 ad 31) hK hW (by omega) (fun σ τ => ge_3 rfl σ τ) (r := (R_Row, F_Row, 2)) rfl) ⟨Nat.le_trans (Nat.le_of_ble_eq_true rfl) hR.1, Nat.le_trans (Nat.le_of_ble_eq_true rfl) hR.2⟩ rfl hl.1 rfl (Nat.le_of_ble_eq_true rfl) d_Gat_handleEntry_51 ⟨Nat.zero_le _, Nat.zero_le _⟩ (fun r t H locs hp hW hS => ?_)
    obtain ⟨rfl, rfl⟩ := hp
    have hW : gW g A ad np (a2, x, o) v H := hW
    refine lv_if_ne (tgt := 93) hx hb d_Gat_handleEntry_54 (by decide) (fun h54 => ?_) (fun h54 => ?_)
    · -- 54 t
      have h54 : (pEq (a2 15) qv ng) = true := bI_n0 h54
      exact jn93 a2 x _ _ _ (by unfold sH3; rw [hcn, if_pos (by first | exact Or.inl h43 | exact Or.inr h54)]) (fun _ _ _ => rfl) (hwx.2.1.trans (s2 21 (by decide) (by decide) (by decide)).symm) (lv_sub hl [3] rfl) hW hS
    · -- 54 f
      have h54 : (pEq (a2 15) qv ng) = false := bI_0 h54
      have d15b : dst (a2 15) ng np := by rw [r2 15 (by decide) (by decide) (by decide)]; exact d15
      have hr32 : ng < 32 := dst_room d15b hQ1 hqQ h54 hnp
      have hneg : ¬ (qv = -1 ∨ pEq (a2 15) qv ng = true) := fun q => q.elim h43 (fun e => by rw [h54] at e; cases e)
      refine lv_aload_n hx hb d_Gat_handleEntry_57 rfl (lv_at hl 3 rfl) ?_
      refine gf_Gat_30 X hW  d_Gat_handleEntry_58 ?_
      refine lv_iload_n hx hb d_Gat_handleEntry_61 rfl (lv_at hl 0 rfl) ?_
      refine gc_iV (As := [.int qv]) (b := ad 31) (rest := []) X cw_Gat_92 (C_Row_add l (u := (a2, x, o)) (v := v) (x := qv) (n := ng) (gRow_31 np) g25 (by omega)) hW hS (gW_recv (ci := 3) (fs := gf3 ad 31) hK hW (by omega) (fun σ τ => ge_3 rfl σ τ) (r := (R_Row, F_Row, 2)) rfl) ⟨Nat.le_trans (Nat.le_of_ble_eq_true rfl) hR.1, Nat.le_trans (Nat.le_of_ble_eq_true rfl) hR.2⟩ rfl hl.1 rfl (Nat.le_of_ble_eq_true rfl) d_Gat_handleEntry_62 ⟨Nat.zero_le _, Nat.zero_le _⟩ (fun r t H locs hp hW hS => ?_)
      obtain ⟨rfl, rfl⟩ := hp.1 hr32
      have hW : gW g A ad np (gu (gu a2 15 ng qv) 0 25 (nI (ng + 1)), x, o) v H := hW
      refine lv_pop hx hb d_Gat_handleEntry_65 rfl ?_
      refine lv_iload_n hx hb d_Gat_handleEntry_66 rfl (lv_at hl 1 rfl) ?_
      refine lv_aload_n hx hb d_Gat_handleEntry_67 rfl (lv_at hl 3 rfl) ?_
      refine gf_Gat_37 (z := a2 0 14) X hW  (gv_0_0_14 _) rfl rfl d_Gat_handleEntry_68 ?_
      refine lv_icmp_ge (tgt := 93) hx hb d_Gat_handleEntry_71 (by decide) (fun h71 => ?_) (fun h71 => ?_)
      · -- 71 t
        exact jn93 (gu (gu a2 15 ng qv) 0 25 (nI (ng + 1))) x _ _ _ (by unfold sH3; rw [hcn, if_neg hneg, if_neg (Int32.not_lt.mpr h71)]; unfold sHc; rw [hcn]) (fun _ _ _ => rfl) (hwx.2.1.trans (s2 21 (by decide) (by decide) (by decide)).symm) (lv_sub hl [3] rfl) hW hS
      · -- 71 f
        obtain ⟨lk, hlk5, hlk, hll⟩ := (hw2.2.2.1 Q1 hQ1).2.2.2.2
        refine lv_aload_n hx hb d_Gat_handleEntry_74 rfl (lv_at hl 3 rfl) ?_
        refine lv_aload_n hx hb d_Gat_handleEntry_75 rfl (lv_at hl 3 rfl) ?_
        refine gf_Gat_9 X hW  d_Gat_handleEntry_76 ?_
        refine gf_Gat_95 X hW  d_Gat_handleEntry_79 ?_
        refine lv_iload_n hx hb d_Gat_handleEntry_82 rfl (lv_at hl 0 rfl) ?_
        refine gy_aP (i := Q1) hx hb hK hW hQ1 hnp hqQ d_Gat_handleEntry_83 ?_
        refine gf_Gat_99 X hW (by unfold gp; omega) (gk_p0 Q1) d_Gat_handleEntry_84 ?_
        refine lv_iload_n hx hb d_Gat_handleEntry_87 rfl (lv_at hl 1 rfl) ?_
        refine lv_iconst (v := 1) hx hb d_Gat_handleEntry_88 (by decide) ?_
        refine lv_iadd hx hb d_Gat_handleEntry_89 ?_
        refine gc_vV (As := [.ref (ad (gp Q1 + 3)), .int ((a 13 hd) + 1)]) (b := ad 24) (rest := []) X cw_Gat_70 (C_Gat_enqueueAll l (a := gu (gu a2 15 ng qv) 0 25 (nI (ng + 1))) (x := x) (o := o) (v := v) (k := gp Q1 + 3) (n := lk) (f := fun i => a2 6 (5 * Q1 + i)) (w := a 13 hd + 1) (n0 := nq) hnp (gRow_l hQ1) hlk5 (fun a' x' hk => ⟨(hk 7 Q1 (by omega)).trans hlk, fun i _ => hk 6 _ (by omega)⟩) hll g21 (hwx.2.1.trans e21) (by show dst (a2 12) nq np; rw [r2 12 (by decide) (by decide) (by decide)]; exact d12)) hW hS (gW_recv (ci := 5) (fs := gf5 ad) hK hW (by omega) (fun σ τ => ge_5 rfl σ τ) (r := (R_Gat, F_Gat, 17)) rfl) ⟨Nat.le_trans (Nat.le_of_ble_eq_true rfl) hR.1, Nat.le_trans (Nat.le_of_ble_eq_true rfl) hR.2⟩ rfl hl.1 rfl (Nat.le_of_ble_eq_true rfl) d_Gat_handleEntry_90 ⟨Nat.zero_le _, Nat.zero_le _⟩ (fun t H locs hp hW hS => ?_)
        obtain ⟨x', nq', rfl, hx1, hx2, hq1, hd1⟩ := hp
        have hW : gW g A ad np (sQA (fun i => a2 6 (5 * Q1 + i)) (a 13 hd + 1) (gu (gu a2 15 ng qv) 0 25 (nI (ng + 1))) lk, x', o) v H := hW
        exact jn93 (sQA (fun i => a2 6 (5 * Q1 + i)) (a 13 hd + 1) (gu (gu a2 15 ng qv) 0 25 (nI (ng + 1))) lk) x' _ _ _ (by unfold sH3; rw [hcn, if_neg hneg, if_pos (Int32.not_le.mp h71), hqQ, nI_clamp (by omega), hlk, nI_clamp (by omega)]; unfold sHc; rw [hcn]) hx1 (hx2.trans hq1.symm) (lv_sub hl [3] rfl) hW hS
theorem C_Gat_handleEntry (l : Launch) {g : gG} {A : Nat → Prop} {ad : Nat → Nat} {np : Nat} {a x : gA} {o : gL} {v : gS} (hw : WFw np a) (hwx : WX np a x) (hg : WFg np a) (hlt : cn a 20 < cn a 21) : CtV l y_Gat_handleEntry b_Gat_handleEntry 4 4 [.ref (ad 24)] g A ad np (a, x, o) v (fun t => ∃ x', t = ((sH a, x', o), v) ∧ WX np (sH a) x') := mkV (by decide) rfl (Nat.le_of_ble_eq_true rfl) (B_Gat_handleEntry l hw hwx hg hlt)

set_option maxHeartbeats 400000 in
set_option maxRecDepth 20000 in
theorem B_Gat_startAnew (l : Launch) {g : gG} {A : Nat → Prop} {ad : Nat → Nat} {np : Nat} {a x : gA} {o : gL} {v : gS} {w1 w2 w3 w4 : Int32} (hw : WFw np a) (hwx : WX np a x) (hg : WFg np a) : BdV l b_Gat_startAnew 5 R_Gat 2 [.ref (ad 24), .int w1, .int w2, .int w3, .int w4] g A ad np (a, x, o) v (fun t => ∃ x', t = ((sSt a w1 w2 w3 w4, x', o), v) ∧ WX np (sSt a w1 w2 w3 w4) x') := by
  intro p e R s m args below meth c Q ls X hW hS hR hl hret
  have hx := X.1.1
  have hb := X.1.2.1
  have hml := X.1.2.2.1
  have hown := X.1.2.2.2.1
  have hts := X.1.2.2.2.2
  have hK := X.2.1
  have hl : lv_has ls 5 [(0, .ref (ad 24)), (1, .int w1), (2, .int w2), (3, .int w3), (4, .int w4)] := hl
  have hnp := hw.1
  obtain ⟨hd, nq, nf, ng, mh, mq, mf, mg, hp0, e20, e21, e23, e25, e29, e30, e31, e32, e33, e15, hp4, hdq, mhd, mhq, mqq, mff, mgg, d12, d14, d15⟩ := hg
  have hnq := dst_le d12 hnp
  have hng := dst_le d15 hnp
  have hnf := dst_le d14 hnp
  obtain ⟨kf, hkf6, e12, hkf⟩ := hw.2.2.2.2.2.2.2.1
  refine lv_aload_n hx hb d_Gat_startAnew_0 rfl (lv_at hl 0 rfl) ?_
  refine lv_iload_n hx hb d_Gat_startAnew_1 rfl (lv_at hl 1 rfl) ?_
  refine pf_Gat_37 (z := w1) X hW hS  (gv_0_0_14 _) rfl rfl rfl d_Gat_startAnew_2 (fun H locs hW hS => ?_)
  have hW : gW g A ad np (gu a 0 14 w1, x, o) v H := hW
  refine lv_aload_n hx hb d_Gat_startAnew_5 rfl (lv_at hl 0 rfl) ?_
  refine lv_iload_n hx hb d_Gat_startAnew_6 rfl (lv_at hl 2 rfl) ?_
  refine pf_Gat_41 (z := w2) X hW hS  (gv_0_0_15 _) rfl rfl rfl d_Gat_startAnew_7 (fun H locs hW hS => ?_)
  have hW : gW g A ad np (gu (gu a 0 14 w1) 0 15 w2, x, o) v H := hW
  refine lv_aload_n hx hb d_Gat_startAnew_10 rfl (lv_at hl 0 rfl) ?_
  refine lv_iload_n hx hb d_Gat_startAnew_11 rfl (lv_at hl 3 rfl) ?_
  refine pf_Gat_44 (z := w3) X hW hS  (gv_0_0_16 _) rfl rfl rfl d_Gat_startAnew_12 (fun H locs hW hS => ?_)
  have hW : gW g A ad np (gu (gu (gu a 0 14 w1) 0 15 w2) 0 16 w3, x, o) v H := hW
  refine lv_aload_n hx hb d_Gat_startAnew_15 rfl (lv_at hl 0 rfl) ?_
  refine lv_iload hx hb d_Gat_startAnew_16 (lv_at hl 4 rfl) ?_
  refine pf_Gat_47 (z := w4) X hW hS  (gv_0_0_17 _) rfl rfl rfl d_Gat_startAnew_18 (fun H locs hW hS => ?_)
  have hW : gW g A ad np (gu (gu (gu (gu a 0 14 w1) 0 15 w2) 0 16 w3) 0 17 w4, x, o) v H := hW
  refine lv_aload_n hx hb d_Gat_startAnew_21 rfl (lv_at hl 0 rfl) ?_
  refine gf_Gat_20 X hW  d_Gat_startAnew_22 ?_
  refine lv_iconst (v := 0) hx hb d_Gat_startAnew_25 (by decide) ?_
  refine gc_vV (As := [.int 0]) (b := ad 25) (rest := []) X cw_Gat_50 (C_Row_cutTo l (u := (gu (gu (gu (gu a 0 14 w1) 0 15 w2) 0 16 w3) 0 17 w4, x, o)) (v := v) (mm := 0) (n := nq) (gRow_25 np) e21 (by omega) (by omega)) hW hS (gW_recv (ci := 3) (fs := gf3 ad 25) hK hW (by omega) (fun σ τ => ge_3 rfl σ τ) (r := (R_Row, F_Row, 2)) rfl) ⟨Nat.le_trans (Nat.le_of_ble_eq_true rfl) hR.1, Nat.le_trans (Nat.le_of_ble_eq_true rfl) hR.2⟩ rfl hl.1 rfl (Nat.le_of_ble_eq_true rfl) d_Gat_startAnew_26 ⟨Nat.zero_le _, Nat.zero_le _⟩ (fun t H locs hp hW hS => ?_)
  subst hp
  have hW : gW g A ad np (gu (gu (gu (gu (gu a 0 14 w1) 0 15 w2) 0 16 w3) 0 17 w4) 0 21 (nI 0), x, o) v H := hW
  refine lv_aload_n hx hb d_Gat_startAnew_29 rfl (lv_at hl 0 rfl) ?_
  refine gf_Gat_24 X hW  d_Gat_startAnew_30 ?_
  refine lv_iconst (v := 0) hx hb d_Gat_startAnew_33 (by decide) ?_
  refine gc_vV (As := [.int 0]) (b := ad 27) (rest := []) X cw_Gat_50 (C_Row_cutTo l (u := (gu (gu (gu (gu (gu a 0 14 w1) 0 15 w2) 0 16 w3) 0 17 w4) 0 21 (nI 0), x, o)) (v := v) (mm := 0) (n := nq) (gRow_27 np) (hwx.2.1.trans e21) (by omega) (by omega)) hW hS (gW_recv (ci := 3) (fs := gf3 ad 27) hK hW (by omega) (fun σ τ => ge_3 rfl σ τ) (r := (R_Row, F_Row, 2)) rfl) ⟨Nat.le_trans (Nat.le_of_ble_eq_true rfl) hR.1, Nat.le_trans (Nat.le_of_ble_eq_true rfl) hR.2⟩ rfl hl.1 rfl (Nat.le_of_ble_eq_true rfl) d_Gat_startAnew_34 ⟨Nat.zero_le _, Nat.zero_le _⟩ (fun t H locs hp hW hS => ?_)
  subst hp
  have hW : gW g A ad np (gu (gu (gu (gu (gu a 0 14 w1) 0 15 w2) 0 16 w3) 0 17 w4) 0 21 (nI 0), gu x 2 0 (nI 0), o) v H := hW
  refine lv_aload_n hx hb d_Gat_startAnew_37 rfl (lv_at hl 0 rfl) ?_
  refine gf_Gat_27 X hW  d_Gat_startAnew_38 ?_
  refine lv_iconst (v := 0) hx hb d_Gat_startAnew_41 (by decide) ?_
  refine gc_vV (As := [.int 0]) (b := ad 29) (rest := []) X cw_Gat_50 (C_Row_cutTo l (u := (gu (gu (gu (gu (gu a 0 14 w1) 0 15 w2) 0 16 w3) 0 17 w4) 0 21 (nI 0), gu x 2 0 (nI 0), o)) (v := v) (mm := 0) (n := nf) (gRow_29 np) e23 (by omega) (by omega)) hW hS (gW_recv (ci := 3) (fs := gf3 ad 29) hK hW (by omega) (fun σ τ => ge_3 rfl σ τ) (r := (R_Row, F_Row, 2)) rfl) ⟨Nat.le_trans (Nat.le_of_ble_eq_true rfl) hR.1, Nat.le_trans (Nat.le_of_ble_eq_true rfl) hR.2⟩ rfl hl.1 rfl (Nat.le_of_ble_eq_true rfl) d_Gat_startAnew_42 ⟨Nat.zero_le _, Nat.zero_le _⟩ (fun t H locs hp hW hS => ?_)
  subst hp
  have hW : gW g A ad np (gu (gu (gu (gu (gu (gu a 0 14 w1) 0 15 w2) 0 16 w3) 0 17 w4) 0 21 (nI 0)) 0 23 (nI 0), gu x 2 0 (nI 0), o) v H := hW
  refine lv_aload_n hx hb d_Gat_startAnew_45 rfl (lv_at hl 0 rfl) ?_
  refine gf_Gat_30 X hW  d_Gat_startAnew_46 ?_
  refine lv_iconst (v := 0) hx hb d_Gat_startAnew_49 (by decide) ?_
  refine gc_vV (As := [.int 0]) (b := ad 31) (rest := []) X cw_Gat_50 (C_Row_cutTo l (u := (gu (gu (gu (gu (gu (gu a 0 14 w1) 0 15 w2) 0 16 w3) 0 17 w4) 0 21 (nI 0)) 0 23 (nI 0), gu x 2 0 (nI 0), o)) (v := v) (mm := 0) (n := ng) (gRow_31 np) e25 (by omega) (by omega)) hW hS (gW_recv (ci := 3) (fs := gf3 ad 31) hK hW (by omega) (fun σ τ => ge_3 rfl σ τ) (r := (R_Row, F_Row, 2)) rfl) ⟨Nat.le_trans (Nat.le_of_ble_eq_true rfl) hR.1, Nat.le_trans (Nat.le_of_ble_eq_true rfl) hR.2⟩ rfl hl.1 rfl (Nat.le_of_ble_eq_true rfl) d_Gat_startAnew_50 ⟨Nat.zero_le _, Nat.zero_le _⟩ (fun t H locs hp hW hS => ?_)
  subst hp
  have hW : gW g A ad np (gu (gu (gu (gu (gu (gu (gu a 0 14 w1) 0 15 w2) 0 16 w3) 0 17 w4) 0 21 (nI 0)) 0 23 (nI 0)) 0 25 (nI 0), gu x 2 0 (nI 0), o) v H := hW
  refine lv_aload_n hx hb d_Gat_startAnew_53 rfl (lv_at hl 0 rfl) ?_
  refine lv_iconst (v := 0) hx hb d_Gat_startAnew_54 (by decide) ?_
  refine pf_Gat_53 (z := 0) X hW hS  (gv_0_0_20 _) rfl rfl rfl d_Gat_startAnew_55 (fun H locs hW hS => ?_)
  have hW : gW g A ad np (gu (gu (gu (gu (gu (gu (gu (gu a 0 14 w1) 0 15 w2) 0 16 w3) 0 17 w4) 0 21 (nI 0)) 0 23 (nI 0)) 0 25 (nI 0)) 0 20 0, gu x 2 0 (nI 0), o) v H := hW
  refine lv_aload_n hx hb d_Gat_startAnew_58 rfl (lv_at hl 0 rfl) ?_
  refine lv_iconst (v := 0) hx hb d_Gat_startAnew_59 (by decide) ?_
  refine pf_Gat_56 (z := 0) X hW hS  (gv_0_0_26 _) rfl rfl rfl d_Gat_startAnew_60 (fun H locs hW hS => ?_)
  have hW : gW g A ad np (gu (gu (gu (gu (gu (gu (gu (gu (gu a 0 14 w1) 0 15 w2) 0 16 w3) 0 17 w4) 0 21 (nI 0)) 0 23 (nI 0)) 0 25 (nI 0)) 0 20 0) 0 26 0, gu x 2 0 (nI 0), o) v H := hW
  refine lv_aload_n hx hb d_Gat_startAnew_63 rfl (lv_at hl 0 rfl) ?_
  refine lv_iconst (v := 0) hx hb d_Gat_startAnew_64 (by decide) ?_
  refine pf_Gat_59 (z := 0) X hW hS  (gv_0_0_28 _) rfl rfl rfl d_Gat_startAnew_65 (fun H locs hW hS => ?_)
  have hW : gW g A ad np (gu (gu (gu (gu (gu (gu (gu (gu (gu (gu a 0 14 w1) 0 15 w2) 0 16 w3) 0 17 w4) 0 21 (nI 0)) 0 23 (nI 0)) 0 25 (nI 0)) 0 20 0) 0 26 0) 0 28 0, gu x 2 0 (nI 0), o) v H := hW
  refine lv_aload_n hx hb d_Gat_startAnew_68 rfl (lv_at hl 0 rfl) ?_
  refine lv_iconst (v := 0) hx hb d_Gat_startAnew_69 (by decide) ?_
  refine gc_vV (As := [.int 0]) (b := ad 24) (rest := []) X cw_Gat_62 (C_Gat_setAllFrom l (a := gu (gu (gu (gu (gu (gu (gu (gu (gu (gu a 0 14 w1) 0 15 w2) 0 16 w3) 0 17 w4) 0 21 (nI 0)) 0 23 (nI 0)) 0 25 (nI 0)) 0 20 0) 0 26 0) 0 28 0) (x := gu x 2 0 (nI 0)) (o := o) (v := v) (w := 0)) hW hS (gW_recv (ci := 5) (fs := gf5 ad) hK hW (by omega) (fun σ τ => ge_5 rfl σ τ) (r := (R_Gat, F_Gat, 17)) rfl) ⟨Nat.le_trans (Nat.le_of_ble_eq_true rfl) hR.1, Nat.le_trans (Nat.le_of_ble_eq_true rfl) hR.2⟩ rfl hl.1 rfl (Nat.le_of_ble_eq_true rfl) d_Gat_startAnew_70 ⟨Nat.zero_le _, Nat.zero_le _⟩ (fun t H locs hp hW hS => ?_)
  subst hp
  have hW : gW g A ad np (sAF (sB0 a w1 w2 w3 w4) 0 6, gu x 2 0 (nI 0), o) v H := hW
  refine lv_aload_n hx hb d_Gat_startAnew_73 rfl (lv_at hl 0 rfl) ?_
  refine lv_aload_n hx hb d_Gat_startAnew_74 rfl (lv_at hl 0 rfl) ?_
  refine gf_Gat_9 X hW  d_Gat_startAnew_75 ?_
  refine gf_Gat_65 X hW  d_Gat_startAnew_78 ?_
  refine lv_iconst (v := 0) hx hb d_Gat_startAnew_81 (by decide) ?_
  refine gc_vV (As := [.ref (ad 22), .int 0]) (b := ad 24) (rest := []) X cw_Gat_70 (C_Gat_enqueueAll l (a := sAF (sB0 a w1 w2 w3 w4) 0 6) (x := gu x 2 0 (nI 0)) (o := o) (v := v) (k := 22) (n := kf) (f := a 11) (w := 0) (n0 := 0) hnp (gRow_22 np) hkf6 (fun a' x' hk => ⟨(hk 0 12 (by omega)).trans (e12), fun i _ => (hk 11 i (by omega)).trans (by rw [sAF_row _ _ (by decide)]; rfl)⟩) hkf rfl rfl (dst_0 _ _)) hW hS (gW_recv (ci := 5) (fs := gf5 ad) hK hW (by omega) (fun σ τ => ge_5 rfl σ τ) (r := (R_Gat, F_Gat, 17)) rfl) ⟨Nat.le_trans (Nat.le_of_ble_eq_true rfl) hR.1, Nat.le_trans (Nat.le_of_ble_eq_true rfl) hR.2⟩ rfl hl.1 rfl (Nat.le_of_ble_eq_true rfl) d_Gat_startAnew_82 ⟨Nat.zero_le _, Nat.zero_le _⟩ (fun t H locs hp hW hS => ?_)
  obtain ⟨x', nq', rfl, hx1, hx2, hq1, hd1⟩ := hp
  have hW : gW g A ad np (sQA (a 11) 0 (sAF (sB0 a w1 w2 w3 w4) 0 6) kf, x', o) v H := hW
  refine lv_aload_n hx hb d_Gat_startAnew_85 rfl (lv_at hl 0 rfl) ?_
  refine gc_vV (As := []) (b := ad 24) (rest := []) X cw_Gat_74 (C_Gat_setMark l (a := sQA (a 11) 0 (sAF (sB0 a w1 w2 w3 w4) 0 6) kf) (x := x') (o := o) (v := v)) hW hS (gW_recv (ci := 5) (fs := gf5 ad) hK hW (by omega) (fun σ τ => ge_5 rfl σ τ) (r := (R_Gat, F_Gat, 17)) rfl) ⟨Nat.le_trans (Nat.le_of_ble_eq_true rfl) hR.1, Nat.le_trans (Nat.le_of_ble_eq_true rfl) hR.2⟩ rfl hl.1 rfl (Nat.le_of_ble_eq_true rfl) d_Gat_startAnew_86 ⟨Nat.zero_le _, Nat.zero_le _⟩ (fun t H locs hp hW hS => ?_)
  subst hp
  have hW : gW g A ad np (sMk (sQA (a 11) 0 (sAF (sB0 a w1 w2 w3 w4) 0 6) kf), x', o) v H := hW
  refine hret ((sMk (sQA (a 11) 0 (sAF (sB0 a w1 w2 w3 w4) 0 6) kf), x', o), v) _ _ _ _ ?_ hW hS d_Gat_startAnew_89
  have e9 : sSt a w1 w2 w3 w4 = sMk (sQA (a 11) 0 (sAF (sB0 a w1 w2 w3 w4) 0 6) kf) := by unfold sSt; rw [cn_of e12 (by omega)]
  rw [e9]
  refine ⟨x', rfl, fun p hp => ?_, hx2.trans hq1.symm, ?_⟩
  · have k3 : sMk (sQA (a 11) 0 (sAF (sB0 a w1 w2 w3 w4) 0 6) kf) 3 = a 3 := (qk_row (qk_sQA _ _ _ _) (by decide) (by decide) (by decide)).trans (sAF_row _ _ (by decide) _)
    rw [k3, hx1 0 p (by omega), hx1 1 p (by omega)]
    exact hwx.1 p hp
  · rw [hx1 2 1 (by omega)]
    exact hwx.2.2
theorem C_Gat_startAnew (l : Launch) {g : gG} {A : Nat → Prop} {ad : Nat → Nat} {np : Nat} {a x : gA} {o : gL} {v : gS} {w1 w2 w3 w4 : Int32} (hw : WFw np a) (hwx : WX np a x) (hg : WFg np a) : CtV l y_Gat_startAnew b_Gat_startAnew 5 2 [.ref (ad 24), .int w1, .int w2, .int w3, .int w4] g A ad np (a, x, o) v (fun t => ∃ x', t = ((sSt a w1 w2 w3 w4, x', o), v) ∧ WX np (sSt a w1 w2 w3 w4) x') := mkV (by decide) rfl (Nat.le_of_ble_eq_true rfl) (B_Gat_startAnew l hw hwx hg)

set_option maxHeartbeats 400000 in
set_option maxRecDepth 20000 in
theorem B_Gat_fallBack (l : Launch) {g : gG} {A : Nat → Prop} {ad : Nat → Nat} {np : Nat} {a x : gA} {o : gL} {v : gS} (hnp : np ≤ 32) (hwx : WX np a x) (hg : WFg np a) : BdI l b_Gat_fallBack 2 R_Gat 2 [.ref (ad 24)] g A ad np (a, x, o) v (fun r t => r = a 0 33 ∧ ∃ x', t = ((sCr a, x', o), v) ∧ WX np (sCr a) x') := by
  intro p e R s m args below meth c Q ls X hW hS hR hl hret
  have hx := X.1.1
  have hb := X.1.2.1
  have hml := X.1.2.2.1
  have hown := X.1.2.2.2.1
  have hts := X.1.2.2.2.2
  have hK := X.2.1
  have hl : lv_has ls 2 [(0, .ref (ad 24))] := hl
  obtain ⟨hd, nq, nf, ng, mh, mq, mf, mg, hp0, e20, e21, e23, e25, e29, e30, e31, e32, e33, e15, hp4, hdq, mhd, mhq, mqq, mff, mgg, d12, d14, d15⟩ := hg
  have hnq := dst_le d12 hnp
  have hng := dst_le d15 hnp
  have hnf := dst_le d14 hnp
  refine lv_aload_n hx hb d_Gat_fallBack_0 rfl (lv_at hl 0 rfl) ?_
  refine gf_Gat_53 (z := nI hd) X hW  (gv_0_0_20 _) rfl e20 d_Gat_fallBack_1 ?_
  refine lv_aload_n hx hb d_Gat_fallBack_4 rfl (lv_at hl 0 rfl) ?_
  refine gf_Gat_104 (z := nI mh) X hW  (gv_0_0_29 _) rfl e29 d_Gat_fallBack_5 ?_
  refine lv_isub hx hb d_Gat_fallBack_8 ?_
  rw [show (nI hd) - (nI mh) = nI (hd - mh) from pk_sub mhd]
  refine lv_istore_n hx hb d_Gat_fallBack_9 rfl hl (by decide) rfl (fun ls hl => ?_)
  have hl : lv_has ls 2 [(1, .int (nI (hd - mh))), (0, .ref (ad 24))] := hl
  refine lv_aload_n hx hb d_Gat_fallBack_10 rfl (lv_at hl 1 rfl) ?_
  refine lv_aload_n hx hb d_Gat_fallBack_11 rfl (lv_at hl 1 rfl) ?_
  refine gf_Gat_104 (z := a 0 29) X hW  (gv_0_0_29 _) rfl rfl d_Gat_fallBack_12 ?_
  refine pf_Gat_53 (z := a 0 29) X hW hS  (gv_0_0_20 _) rfl rfl rfl d_Gat_fallBack_15 (fun H locs hW hS => ?_)
  have hW : gW g A ad np (gu a 0 20 (a 0 29), x, o) v H := hW
  refine lv_aload_n hx hb d_Gat_fallBack_18 rfl (lv_at hl 1 rfl) ?_
  refine gf_Gat_20 X hW  d_Gat_fallBack_19 ?_
  refine lv_aload_n hx hb d_Gat_fallBack_22 rfl (lv_at hl 1 rfl) ?_
  refine gf_Gat_128 (z := nI mq) X hW  (gv_0_0_30 _) rfl e30 d_Gat_fallBack_23 ?_
  refine gc_vV (As := [.int (nI mq)]) (b := ad 25) (rest := []) X cw_Gat_50 (C_Row_cutTo l (u := (gu a 0 20 (a 0 29), x, o)) (v := v) (mm := mq) (n := nq) (gRow_25 np) e21 mqq (by omega)) hW hS (gW_recv (ci := 3) (fs := gf3 ad 25) hK hW (by omega) (fun σ τ => ge_3 rfl σ τ) (r := (R_Row, F_Row, 2)) rfl) ⟨Nat.le_trans (Nat.le_of_ble_eq_true rfl) hR.1, Nat.le_trans (Nat.le_of_ble_eq_true rfl) hR.2⟩ rfl hl.1 rfl (Nat.le_of_ble_eq_true rfl) d_Gat_fallBack_26 ⟨Nat.zero_le _, Nat.zero_le _⟩ (fun t H locs hp hW hS => ?_)
  subst hp
  have hW : gW g A ad np (gu (gu a 0 20 (a 0 29)) 0 21 (nI mq), x, o) v H := hW
  refine lv_aload_n hx hb d_Gat_fallBack_29 rfl (lv_at hl 1 rfl) ?_
  refine gf_Gat_24 X hW  d_Gat_fallBack_30 ?_
  refine lv_aload_n hx hb d_Gat_fallBack_33 rfl (lv_at hl 1 rfl) ?_
  refine gf_Gat_128 (z := nI mq) X hW  (gv_0_0_30 _) rfl e30 d_Gat_fallBack_34 ?_
  refine gc_vV (As := [.int (nI mq)]) (b := ad 27) (rest := []) X cw_Gat_50 (C_Row_cutTo l (u := (gu (gu a 0 20 (a 0 29)) 0 21 (nI mq), x, o)) (v := v) (mm := mq) (n := nq) (gRow_27 np) (hwx.2.1.trans e21) mqq (by omega)) hW hS (gW_recv (ci := 3) (fs := gf3 ad 27) hK hW (by omega) (fun σ τ => ge_3 rfl σ τ) (r := (R_Row, F_Row, 2)) rfl) ⟨Nat.le_trans (Nat.le_of_ble_eq_true rfl) hR.1, Nat.le_trans (Nat.le_of_ble_eq_true rfl) hR.2⟩ rfl hl.1 rfl (Nat.le_of_ble_eq_true rfl) d_Gat_fallBack_37 ⟨Nat.zero_le _, Nat.zero_le _⟩ (fun t H locs hp hW hS => ?_)
  subst hp
  have hW : gW g A ad np (gu (gu a 0 20 (a 0 29)) 0 21 (nI mq), gu x 2 0 (nI mq), o) v H := hW
  refine lv_aload_n hx hb d_Gat_fallBack_40 rfl (lv_at hl 1 rfl) ?_
  refine gf_Gat_27 X hW  d_Gat_fallBack_41 ?_
  refine lv_aload_n hx hb d_Gat_fallBack_44 rfl (lv_at hl 1 rfl) ?_
  refine gf_Gat_131 (z := nI mf) X hW  (gv_0_0_31 _) rfl e31 d_Gat_fallBack_45 ?_
  refine gc_vV (As := [.int (nI mf)]) (b := ad 29) (rest := []) X cw_Gat_50 (C_Row_cutTo l (u := (gu (gu a 0 20 (a 0 29)) 0 21 (nI mq), gu x 2 0 (nI mq), o)) (v := v) (mm := mf) (n := nf) (gRow_29 np) e23 mff (by omega)) hW hS (gW_recv (ci := 3) (fs := gf3 ad 29) hK hW (by omega) (fun σ τ => ge_3 rfl σ τ) (r := (R_Row, F_Row, 2)) rfl) ⟨Nat.le_trans (Nat.le_of_ble_eq_true rfl) hR.1, Nat.le_trans (Nat.le_of_ble_eq_true rfl) hR.2⟩ rfl hl.1 rfl (Nat.le_of_ble_eq_true rfl) d_Gat_fallBack_48 ⟨Nat.zero_le _, Nat.zero_le _⟩ (fun t H locs hp hW hS => ?_)
  subst hp
  have hW : gW g A ad np (gu (gu (gu a 0 20 (a 0 29)) 0 21 (nI mq)) 0 23 (nI mf), gu x 2 0 (nI mq), o) v H := hW
  refine lv_aload_n hx hb d_Gat_fallBack_51 rfl (lv_at hl 1 rfl) ?_
  refine gf_Gat_30 X hW  d_Gat_fallBack_52 ?_
  refine lv_aload_n hx hb d_Gat_fallBack_55 rfl (lv_at hl 1 rfl) ?_
  refine gf_Gat_134 (z := nI mg) X hW  (gv_0_0_32 _) rfl e32 d_Gat_fallBack_56 ?_
  refine gc_vV (As := [.int (nI mg)]) (b := ad 31) (rest := []) X cw_Gat_50 (C_Row_cutTo l (u := (gu (gu (gu a 0 20 (a 0 29)) 0 21 (nI mq)) 0 23 (nI mf), gu x 2 0 (nI mq), o)) (v := v) (mm := mg) (n := ng) (gRow_31 np) e25 mgg (by omega)) hW hS (gW_recv (ci := 3) (fs := gf3 ad 31) hK hW (by omega) (fun σ τ => ge_3 rfl σ τ) (r := (R_Row, F_Row, 2)) rfl) ⟨Nat.le_trans (Nat.le_of_ble_eq_true rfl) hR.1, Nat.le_trans (Nat.le_of_ble_eq_true rfl) hR.2⟩ rfl hl.1 rfl (Nat.le_of_ble_eq_true rfl) d_Gat_fallBack_59 ⟨Nat.zero_le _, Nat.zero_le _⟩ (fun t H locs hp hW hS => ?_)
  subst hp
  have hW : gW g A ad np (gu (gu (gu (gu a 0 20 (a 0 29)) 0 21 (nI mq)) 0 23 (nI mf)) 0 25 (nI mg), gu x 2 0 (nI mq), o) v H := hW
  refine lv_aload_n hx hb d_Gat_fallBack_62 rfl (lv_at hl 1 rfl) ?_
  refine lv_aload_n hx hb d_Gat_fallBack_63 rfl (lv_at hl 1 rfl) ?_
  refine gf_Gat_56 (z := a 0 26) X hW  (gv_0_0_26 _) rfl rfl d_Gat_fallBack_64 ?_
  refine lv_aload_n hx hb d_Gat_fallBack_67 rfl (lv_at hl 1 rfl) ?_
  refine gf_Gat_44 (z := a 0 16) X hW  (gv_0_0_16 _) rfl rfl d_Gat_fallBack_68 ?_
  refine lv_iadd hx hb d_Gat_fallBack_71 ?_
  refine gc_vV (As := [.int ((a 0 26) + (a 0 16))]) (b := ad 24) (rest := []) X cw_Gat_62 (C_Gat_setAllFrom l (a := gu (gu (gu (gu a 0 20 (a 0 29)) 0 21 (nI mq)) 0 23 (nI mf)) 0 25 (nI mg)) (x := gu x 2 0 (nI mq)) (o := o) (v := v) (w := a 0 26 + a 0 16)) hW hS (gW_recv (ci := 5) (fs := gf5 ad) hK hW (by omega) (fun σ τ => ge_5 rfl σ τ) (r := (R_Gat, F_Gat, 17)) rfl) ⟨Nat.le_trans (Nat.le_of_ble_eq_true rfl) hR.1, Nat.le_trans (Nat.le_of_ble_eq_true rfl) hR.2⟩ rfl hl.1 rfl (Nat.le_of_ble_eq_true rfl) d_Gat_fallBack_72 ⟨Nat.zero_le _, Nat.zero_le _⟩ (fun t H locs hp hW hS => ?_)
  subst hp
  have hW := gW_33 0 hW
  have hW : gW g A ad np (gu (sAF (gu (gu (gu (gu a 0 20 (a 0 29)) 0 21 (nI mq)) 0 23 (nI mf)) 0 25 (nI mg)) (a 0 26 + a 0 16) 6) 0 33 0, gu x 2 0 (nI mq), o) v H := hW
  refine lv_iload_n hx hb d_Gat_fallBack_75 rfl (lv_at hl 0 rfl) ?_
  refine hret (nI (hd - mh)) ((gu (sAF (gu (gu (gu (gu a 0 20 (a 0 29)) 0 21 (nI mq)) 0 23 (nI mf)) 0 25 (nI mg)) (a 0 26 + a 0 16) 6) 0 33 0, gu x 2 0 (nI mq), o), v) _ _ _ _ ?_ hW hS d_Gat_fallBack_76
  have e9 : sCr a = gu (sAF (gu (gu (gu (gu a 0 20 (a 0 29)) 0 21 (nI mq)) 0 23 (nI mf)) 0 25 (nI mg)) (a 0 26 + a 0 16) 6) 0 33 0 := by unfold sCr; rw [e30, e31, e32]
  rw [e9]
  exact ⟨e33.symm, _, rfl, fun p hp => hwx.1 p hp, rfl, hwx.2.2⟩
theorem C_Gat_fallBack (l : Launch) {g : gG} {A : Nat → Prop} {ad : Nat → Nat} {np : Nat} {a x : gA} {o : gL} {v : gS} (hnp : np ≤ 32) (hwx : WX np a x) (hg : WFg np a) : CtI l y_Gat_fallBack b_Gat_fallBack 2 .int 2 [.ref (ad 24)] g A ad np (a, x, o) v (fun r t => r = a 0 33 ∧ ∃ x', t = ((sCr a, x', o), v) ∧ WX np (sCr a) x') := mkI (by decide) rfl (Nat.le_of_ble_eq_true rfl) (fun _ _ _ => rfl) (B_Gat_fallBack l hnp hwx hg)

