/-! specs_gat -/
theorem sFe_dst {a : gA} {P nf np : Nat} (hnf : a 0 23 = nI nf) (hd : dst (a 14) nf np) (hP : P < np) (hnp : np ≤ 32) : ∃ nf2, sFe a P 0 23 = nI nf2 ∧ dst (sFe a P 14) nf2 np := by
  have h32 := dst_le hd hnp
  cases hp : pEq (a 14) (nI P) nf with
  | true => rw [sFe_y hnf (by omega) hp]; exact ⟨nf, hnf, hd⟩
  | false =>
    unfold sFe
    rw [cn_of hnf (by omega), if_neg (by rw [hp]; decide)]
    exact ⟨nf + 1, rfl, dst_push hd hP rfl hp⟩
set_option maxHeartbeats 400000 in
set_option maxRecDepth 20000 in
theorem B_Gat_entriesLeft (l : Launch) {g : gG} {A : Nat → Prop} {ad : Nat → Nat} {np : Nat} {a x : gA} {o : gL} {v : gS}  : BdI l b_Gat_entriesLeft 1 R_Gat 0 [.ref (ad 24)] g A ad np (a, x, o) v (fun r t => t = ((a, x, o), v) ∧ r = a 0 21 - a 0 20) := by
  intro p e R s m args below meth c Q ls X hW hS hR hl hret
  have hx := X.1.1
  have hb := X.1.2.1
  have hml := X.1.2.2.1
  have hown := X.1.2.2.2.1
  have hts := X.1.2.2.2.2
  have hK := X.2.1
  have hl : lv_has ls 1 [(0, .ref (ad 24))] := hl
  refine lv_aload_n hx hb d_Gat_entriesLeft_0 rfl (lv_at hl 0 rfl) ?_
  refine gf_Gat_20 X hW  d_Gat_entriesLeft_1 ?_
  refine gf_Gat_77 (z := a 0 21) X hW (by omega) rfl (gv_0_0_21 _) rfl rfl d_Gat_entriesLeft_4 ?_
  refine lv_aload_n hx hb d_Gat_entriesLeft_7 rfl (lv_at hl 0 rfl) ?_
  refine gf_Gat_53 (z := a 0 20) X hW  (gv_0_0_20 _) rfl rfl d_Gat_entriesLeft_8 ?_
  refine lv_isub hx hb d_Gat_entriesLeft_11 ?_
  refine hret ((a 0 21) - (a 0 20)) ((a, x, o), v) _ _ _ _ ?_ hW hS d_Gat_entriesLeft_12
  exact ⟨rfl, rfl⟩
theorem C_Gat_entriesLeft (l : Launch) {g : gG} {A : Nat → Prop} {ad : Nat → Nat} {np : Nat} {a x : gA} {o : gL} {v : gS}  : CtI l y_Gat_entriesLeft b_Gat_entriesLeft 1 .int 0 [.ref (ad 24)] g A ad np (a, x, o) v (fun r t => t = ((a, x, o), v) ∧ r = a 0 21 - a 0 20) := mkI (by decide) rfl (Nat.le_of_ble_eq_true rfl) (fun _ _ _ => rfl) (B_Gat_entriesLeft l )

set_option maxHeartbeats 400000 in
set_option maxRecDepth 20000 in
theorem B_Gat_setAllFrom (l : Launch) {g : gG} {A : Nat → Prop} {ad : Nat → Nat} {np : Nat} {a x : gA} {o : gL} {v : gS} {w : Int32}  : BdV l b_Gat_setAllFrom 3 R_Gat 0 [.ref (ad 24), .int w] g A ad np (a, x, o) v (fun t => t = ((sAF a w 6, x, o), v)) := by
  intro p e R s m args below meth c Q ls X hW hS hR hl hret
  have hx := X.1.1
  have hb := X.1.2.1
  have hml := X.1.2.2.1
  have hown := X.1.2.2.2.1
  have hts := X.1.2.2.2.2
  have hK := X.2.1
  have hl : lv_has ls 3 [(0, .ref (ad 24)), (1, .int w)] := hl
  refine lv_iconst (v := 0) hx hb d_Gat_setAllFrom_0 (by decide) ?_
  refine lv_istore_n hx hb d_Gat_setAllFrom_1 rfl hl (by decide) rfl (fun ls hl => ?_)
  have hl : lv_has ls 3 [(2, .int 0), (0, .ref (ad 24)), (1, .int w)] := hl
  have lp2 : ∀ (fuel : Nat) (i : Nat) (ls : Array Slot) (H : Heap) (locs : List Loc), (i ≤ 6) → 6 - i < fuel → lv_has ls 3 [(0, .ref (ad 24)), (1, .int w), (2, .int (nI i))] → gW g A ad np (sAF a w i, x, o) v H → va_S A s.heap H locs → W p l e R s m args below meth c H locs 0 0 Q (F0 m 2 ls []) := by
    intro fuel
    induction fuel with
    | zero => intro i ls H locs _ hfu; exact absurd hfu (Nat.not_lt_zero _)
    | succ fuel ih2 =>
      intro i ls H locs hi hfu hl hW hS
      refine lv_iload_n hx hb d_Gat_setAllFrom_2 rfl (lv_at hl 2 rfl) ?_
      refine lv_bipush (v := 6) hx hb d_Gat_setAllFrom_3 (by decide) ?_
      refine lv_icmp_ge (tgt := 21) hx hb d_Gat_setAllFrom_5 (by decide) (fun h5 => ?_) (fun h5 => ?_)
      · -- 5 t
        have h5 : 6 ≤ i := (nI_leI (a := 6) (b := i) (by omega) (by omega)).mp h5
        refine hret ((sAF a w i, x, o), v) _ _ _ _ ?_ hW hS d_Gat_setAllFrom_21
        rw [show i = 6 by omega]
      · -- 5 f
        have h5 : i < 6 := Nat.lt_of_not_le fun q => h5 ((nI_leI (a := 6) (b := i) (by omega) (by omega)).mpr q)
        refine lv_aload_n hx hb d_Gat_setAllFrom_8 rfl (lv_at hl 0 rfl) ?_
        refine gf_Gat_33 X hW  d_Gat_setAllFrom_9 ?_
        refine lv_iload_n hx hb d_Gat_setAllFrom_12 rfl (lv_at hl 2 rfl) ?_
        refine lv_iload_n hx hb d_Gat_setAllFrom_13 rfl (lv_at hl 1 rfl) ?_
        refine gy_is (z := w) (q := (0, 16, i)) hx hb hK hW hS (by omega) rfl (show vp_in _ 6 from vp_in_nI (by omega) (by decide)) (gv_0_16 (by omega)) ((gi_0_16 _).trans (by rw [nI_clamp (by omega)])) d_Gat_setAllFrom_14 (fun H locs hW hS => ?_)
        have hW : gW g A ad np (gu (sAF a w i) 16 i w, x, o) v H := hW
        refine lv_iinc (v := nI (i + 1)) (k := 2) hx hb d_Gat_setAllFrom_15 hl rfl (nI_inc i) (by decide) rfl (fun ls hl => ?_)
        have hl : lv_has ls 3 [(2, .int (nI (i + 1))), (0, .ref (ad 24)), (1, .int w)] := hl
        refine lv_goto (tgt := 2) hx hb d_Gat_setAllFrom_18 (by decide) ?_
        exact ih2 (i + 1) _ _ _ (by omega) (by omega) (lv_sub hl [1, 2, 0] rfl) hW hS
  exact lp2 _ 0 _ _ _ (by decide) (Nat.lt_succ_self _) (lv_sub hl [1, 2, 0] rfl) hW hS
theorem C_Gat_setAllFrom (l : Launch) {g : gG} {A : Nat → Prop} {ad : Nat → Nat} {np : Nat} {a x : gA} {o : gL} {v : gS} {w : Int32}  : CtV l y_Gat_setAllFrom b_Gat_setAllFrom 3 0 [.ref (ad 24), .int w] g A ad np (a, x, o) v (fun t => t = ((sAF a w 6, x, o), v)) := mkV (by decide) rfl (Nat.le_of_ble_eq_true rfl) (B_Gat_setAllFrom l )

set_option maxHeartbeats 400000 in
set_option maxRecDepth 20000 in
theorem B_Gat_setMark (l : Launch) {g : gG} {A : Nat → Prop} {ad : Nat → Nat} {np : Nat} {a x : gA} {o : gL} {v : gS}  : BdV l b_Gat_setMark 1 R_Gat 0 [.ref (ad 24)] g A ad np (a, x, o) v (fun t => t = ((sMk a, x, o), v)) := by
  intro p e R s m args below meth c Q ls X hW hS hR hl hret
  have hx := X.1.1
  have hb := X.1.2.1
  have hml := X.1.2.2.1
  have hown := X.1.2.2.2.1
  have hts := X.1.2.2.2.2
  have hK := X.2.1
  have hl : lv_has ls 1 [(0, .ref (ad 24))] := hl
  refine lv_aload_n hx hb d_Gat_setMark_0 rfl (lv_at hl 0 rfl) ?_
  refine lv_aload_n hx hb d_Gat_setMark_1 rfl (lv_at hl 0 rfl) ?_
  refine gf_Gat_53 (z := a 0 20) X hW  (gv_0_0_20 _) rfl rfl d_Gat_setMark_2 ?_
  refine pf_Gat_104 (z := a 0 20) X hW hS  (gv_0_0_29 _) rfl rfl rfl d_Gat_setMark_5 (fun H locs hW hS => ?_)
  have hW : gW g A ad np (gu a 0 29 (a 0 20), x, o) v H := hW
  refine lv_aload_n hx hb d_Gat_setMark_8 rfl (lv_at hl 0 rfl) ?_
  refine lv_aload_n hx hb d_Gat_setMark_9 rfl (lv_at hl 0 rfl) ?_
  refine gf_Gat_20 X hW  d_Gat_setMark_10 ?_
  refine gf_Gat_77 (z := a 0 21) X hW (by omega) rfl (gv_0_0_21 _) rfl rfl d_Gat_setMark_13 ?_
  refine pf_Gat_128 (z := a 0 21) X hW hS  (gv_0_0_30 _) rfl rfl rfl d_Gat_setMark_16 (fun H locs hW hS => ?_)
  have hW : gW g A ad np (gu (gu a 0 29 (a 0 20)) 0 30 (a 0 21), x, o) v H := hW
  refine lv_aload_n hx hb d_Gat_setMark_19 rfl (lv_at hl 0 rfl) ?_
  refine lv_aload_n hx hb d_Gat_setMark_20 rfl (lv_at hl 0 rfl) ?_
  refine gf_Gat_27 X hW  d_Gat_setMark_21 ?_
  refine gf_Gat_77 (z := a 0 23) X hW (by omega) rfl (gv_0_0_23 _) rfl rfl d_Gat_setMark_24 ?_
  refine pf_Gat_131 (z := a 0 23) X hW hS  (gv_0_0_31 _) rfl rfl rfl d_Gat_setMark_27 (fun H locs hW hS => ?_)
  have hW : gW g A ad np (gu (gu (gu a 0 29 (a 0 20)) 0 30 (a 0 21)) 0 31 (a 0 23), x, o) v H := hW
  refine lv_aload_n hx hb d_Gat_setMark_30 rfl (lv_at hl 0 rfl) ?_
  refine lv_aload_n hx hb d_Gat_setMark_31 rfl (lv_at hl 0 rfl) ?_
  refine gf_Gat_30 X hW  d_Gat_setMark_32 ?_
  refine gf_Gat_77 (z := a 0 25) X hW (by omega) rfl (gv_0_0_25 _) rfl rfl d_Gat_setMark_35 ?_
  refine pf_Gat_134 (z := a 0 25) X hW hS  (gv_0_0_32 _) rfl rfl rfl d_Gat_setMark_38 (fun H locs hW hS => ?_)
  have hW : gW g A ad np (gu (gu (gu (gu a 0 29 (a 0 20)) 0 30 (a 0 21)) 0 31 (a 0 23)) 0 32 (a 0 25), x, o) v H := hW
  have hW := gW_33 0 hW
  refine hret ((gu (gu (gu (gu (gu a 0 29 (a 0 20)) 0 30 (a 0 21)) 0 31 (a 0 23)) 0 32 (a 0 25)) 0 33 0, x, o), v) _ _ _ _ ?_ hW hS d_Gat_setMark_41
  exact rfl
theorem C_Gat_setMark (l : Launch) {g : gG} {A : Nat → Prop} {ad : Nat → Nat} {np : Nat} {a x : gA} {o : gL} {v : gS}  : CtV l y_Gat_setMark b_Gat_setMark 1 0 [.ref (ad 24)] g A ad np (a, x, o) v (fun t => t = ((sMk a, x, o), v)) := mkV (by decide) rfl (Nat.le_of_ble_eq_true rfl) (B_Gat_setMark l )

set_option maxHeartbeats 400000 in
set_option maxRecDepth 20000 in
theorem B_Gat_fetch (l : Launch) {g : gG} {A : Nat → Prop} {ad : Nat → Nat} {np : Nat} {a x : gA} {o : gL} {v : gS} {P hh nf : Nat} (hP : P < np) (hnp : np ≤ 32) (hh1 : a 1 P = nI hh) (hh6 : hh < 6) (hnf : a 0 23 = nI nf) (hd : dst (a 14) nf np) : BdV l b_Gat_fetch 4 R_Gat 1 [.ref (ad 24), .int (nI P)] g A ad np (a, x, o) v (fun t => t = ((sFe a P, x, o), v)) := by
  intro p e R s m args below meth c Q ls X hW hS hR hl hret
  have hx := X.1.1
  have hb := X.1.2.1
  have hml := X.1.2.2.1
  have hown := X.1.2.2.2.1
  have hts := X.1.2.2.2.2
  have hK := X.2.1
  have hl : lv_has ls 4 [(0, .ref (ad 24)), (1, .int (nI P))] := hl
  have hnf32 : nf ≤ 32 := Nat.le_trans (dst_le hd hnp) hnp
  refine lv_aload_n hx hb d_Gat_fetch_0 rfl (lv_at hl 0 rfl) ?_
  refine gf_Gat_27 X hW  d_Gat_fetch_1 ?_
  refine lv_iload_n hx hb d_Gat_fetch_4 rfl (lv_at hl 1 rfl) ?_
  refine gc_iV (As := [.int (nI P)]) (b := ad 29) (rest := []) X cw_Gat_88 (C_Row_holds l (u := (a, x, o)) (v := v) (x := nI P) (f := a 14) (gRow_29 np) hnf hnf32 (fun i _ => rfl)) hW hS (gW_recv (ci := 3) (fs := gf3 ad 29) hK hW (by omega) (fun σ τ => ge_3 rfl σ τ) (r := (R_Row, F_Row, 2)) rfl) ⟨Nat.le_trans (Nat.le_of_ble_eq_true rfl) hR.1, Nat.le_trans (Nat.le_of_ble_eq_true rfl) hR.2⟩ rfl hl.1 rfl (Nat.le_of_ble_eq_true rfl) d_Gat_fetch_5 ⟨Nat.zero_le _, Nat.zero_le _⟩ (fun r t H locs hp hW hS => ?_)
  obtain ⟨rfl, rfl⟩ := hp
  have hW : gW g A ad np (a, x, o) v H := hW
  refine lv_if_eq (tgt := 12) hx hb d_Gat_fetch_8 (by decide) (fun h8 => ?_) (fun h8 => ?_)
  · -- 8 t
    have h8 : (pEq (a 14) (nI P) nf) = false := bI_0 h8
    have hr32 : nf < 32 := dst_room hd hP rfl h8 hnp
    refine lv_aload_n hx hb d_Gat_fetch_12 rfl (lv_at hl 0 rfl) ?_
    refine gf_Gat_9 X hW  d_Gat_fetch_13 ?_
    refine gf_Gat_95 X hW  d_Gat_fetch_16 ?_
    refine lv_iload_n hx hb d_Gat_fetch_19 rfl (lv_at hl 1 rfl) ?_
    refine gy_aP (i := P) hx hb hK hW (by omega) hnp rfl d_Gat_fetch_20 ?_
    refine gf_Gat_137 (z := nI hh) X hW (by unfold gp; omega) (gk_p0 P) (gv_0_1 (by omega)) (gi_0_1 _) hh1 d_Gat_fetch_21 ?_
    refine lv_istore_n hx hb d_Gat_fetch_24 rfl hl (by decide) rfl (fun ls hl => ?_)
    have hl : lv_has ls 4 [(2, .int (nI hh)), (0, .ref (ad 24)), (1, .int (nI P))] := hl
    refine lv_aload_n hx hb d_Gat_fetch_25 rfl (lv_at hl 1 rfl) ?_
    refine gf_Gat_56 (z := a 0 26) X hW  (gv_0_0_26 _) rfl rfl d_Gat_fetch_26 ?_
    refine lv_aload_n hx hb d_Gat_fetch_29 rfl (lv_at hl 1 rfl) ?_
    refine gf_Gat_33 X hW  d_Gat_fetch_30 ?_
    refine lv_iload_n hx hb d_Gat_fetch_33 rfl (lv_at hl 0 rfl) ?_
    refine gy_ia (z := a 16 hh) (q := (0, 16, hh)) hx hb hK hW (by omega) rfl (show vp_in _ 6 from vp_in_nI (by omega) (by decide)) (gv_0_16 (by omega)) ((gi_0_16 _).trans (by rw [nI_clamp (by omega)])) rfl d_Gat_fetch_34 ?_
    refine va_mmax hx hb (hml.trans hl.1.symm) hown (hts _ w_Gat_math_140) (hts _ w_math_max_static) (hts _ w_math_init) (hts _ w_math_max_code) (Nat.le_trans (Nat.le_of_ble_eq_true rfl) hR.1) (Nat.le_trans (Nat.le_of_ble_eq_true rfl) hR.2) (Nat.zero_le _) (Nat.zero_le _) d_Gat_fetch_35 ?_
    rw [show (if (a 0 26) < (a 16 hh) then a 16 hh else a 0 26) = tm a hh from rfl]
    refine lv_istore_n hx hb d_Gat_fetch_38 rfl hl (by decide) rfl (fun ls hl => ?_)
    have hl : lv_has ls 4 [(3, .int (tm a hh)), (2, .int (nI hh)), (0, .ref (ad 24)), (1, .int (nI P))] := hl
    refine lv_aload_n hx hb d_Gat_fetch_39 rfl (lv_at hl 2 rfl) ?_
    refine gf_Gat_33 X hW  d_Gat_fetch_40 ?_
    refine lv_iload_n hx hb d_Gat_fetch_43 rfl (lv_at hl 1 rfl) ?_
    refine lv_iload_n hx hb d_Gat_fetch_44 rfl (lv_at hl 0 rfl) ?_
    refine lv_aload_n hx hb d_Gat_fetch_45 rfl (lv_at hl 2 rfl) ?_
    refine gf_Gat_44 (z := a 0 16) X hW  (gv_0_0_16 _) rfl rfl d_Gat_fetch_46 ?_
    refine lv_iadd hx hb d_Gat_fetch_49 ?_
    refine gy_is (z := (tm a hh) + (a 0 16)) (q := (0, 16, hh)) hx hb hK hW hS (by omega) rfl (show vp_in _ 6 from vp_in_nI (by omega) (by decide)) (gv_0_16 (by omega)) ((gi_0_16 _).trans (by rw [nI_clamp (by omega)])) d_Gat_fetch_50 (fun H locs hW hS => ?_)
    have hW : gW g A ad np (gu a 16 hh ((tm a hh) + (a 0 16)), x, o) v H := hW
    refine lv_aload_n hx hb d_Gat_fetch_51 rfl (lv_at hl 2 rfl) ?_
    refine lv_iload_n hx hb d_Gat_fetch_52 rfl (lv_at hl 0 rfl) ?_
    refine lv_iconst (v := 1) hx hb d_Gat_fetch_53 (by decide) ?_
    refine lv_iadd hx hb d_Gat_fetch_54 ?_
    refine pf_Gat_56 (z := (tm a hh) + 1) X hW hS  (gv_0_0_26 _) rfl rfl rfl d_Gat_fetch_55 (fun H locs hW hS => ?_)
    have hW : gW g A ad np (gu (gu a 16 hh ((tm a hh) + (a 0 16))) 0 26 ((tm a hh) + 1), x, o) v H := hW
    refine lv_aload_n hx hb d_Gat_fetch_58 rfl (lv_at hl 2 rfl) ?_
    refine gf_Gat_27 X hW  d_Gat_fetch_59 ?_
    refine lv_iload_n hx hb d_Gat_fetch_62 rfl (lv_at hl 3 rfl) ?_
    refine gc_iV (As := [.int (nI P)]) (b := ad 29) (rest := []) X cw_Gat_92 (C_Row_add l (u := (gu (gu a 16 hh ((tm a hh) + (a 0 16))) 0 26 ((tm a hh) + 1), x, o)) (v := v) (x := nI P) (n := nf) (gRow_29 np) hnf hnf32) hW hS (gW_recv (ci := 3) (fs := gf3 ad 29) hK hW (by omega) (fun σ τ => ge_3 rfl σ τ) (r := (R_Row, F_Row, 2)) rfl) ⟨Nat.le_trans (Nat.le_of_ble_eq_true rfl) hR.1, Nat.le_trans (Nat.le_of_ble_eq_true rfl) hR.2⟩ rfl hl.1 rfl (Nat.le_of_ble_eq_true rfl) d_Gat_fetch_63 ⟨Nat.zero_le _, Nat.zero_le _⟩ (fun r t H locs hp hW hS => ?_)
    obtain ⟨rfl, rfl⟩ := hp.1 hr32
    have hW : gW g A ad np (gu (gu (gu (gu a 16 hh ((tm a hh) + (a 0 16))) 0 26 ((tm a hh) + 1)) 14 nf (nI P)) 0 23 (nI (nf + 1)), x, o) v H := hW
    refine lv_pop hx hb d_Gat_fetch_66 rfl ?_
    refine lv_aload_n hx hb d_Gat_fetch_67 rfl (lv_at hl 2 rfl) ?_
    refine lv_dup hx hb d_Gat_fetch_68 rfl ?_
    refine gf_Gat_59 (z := a 0 28) X hW  (gv_0_0_28 _) rfl rfl d_Gat_fetch_69 ?_
    refine lv_iconst (v := 1) hx hb d_Gat_fetch_72 (by decide) ?_
    refine lv_iadd hx hb d_Gat_fetch_73 ?_
    refine pf_Gat_59 (z := (a 0 28) + 1) X hW hS  (gv_0_0_28 _) rfl rfl rfl d_Gat_fetch_74 (fun H locs hW hS => ?_)
    have hW : gW g A ad np (gu (gu (gu (gu (gu a 16 hh ((tm a hh) + (a 0 16))) 0 26 ((tm a hh) + 1)) 14 nf (nI P)) 0 23 (nI (nf + 1))) 0 28 ((a 0 28) + 1), x, o) v H := hW
    refine hret ((gu (gu (gu (gu (gu a 16 hh ((tm a hh) + (a 0 16))) 0 26 ((tm a hh) + 1)) 14 nf (nI P)) 0 23 (nI (nf + 1))) 0 28 ((a 0 28) + 1), x, o), v) _ _ _ _ ?_ hW hS d_Gat_fetch_77
    rw [sFe_n hnf (by omega) hh1 hh6 h8]
    exact rfl
  · -- 8 f
    have h8 : (pEq (a 14) (nI P) nf) = true := bI_n0 h8
    refine hret ((a, x, o), v) _ _ _ _ ?_ hW hS d_Gat_fetch_11
    rw [sFe_y hnf (by omega) h8]
theorem C_Gat_fetch (l : Launch) {g : gG} {A : Nat → Prop} {ad : Nat → Nat} {np : Nat} {a x : gA} {o : gL} {v : gS} {P hh nf : Nat} (hP : P < np) (hnp : np ≤ 32) (hh1 : a 1 P = nI hh) (hh6 : hh < 6) (hnf : a 0 23 = nI nf) (hd : dst (a 14) nf np) : CtV l y_Gat_fetch b_Gat_fetch 4 1 [.ref (ad 24), .int (nI P)] g A ad np (a, x, o) v (fun t => t = ((sFe a P, x, o), v)) := mkV (by decide) rfl (Nat.le_of_ble_eq_true rfl) (B_Gat_fetch l hP hnp hh1 hh6 hnf hd)

set_option maxHeartbeats 400000 in
set_option maxRecDepth 20000 in
theorem B_Gat_enqueueAll (l : Launch) {g : gG} {A : Nat → Prop} {ad : Nat → Nat} {np : Nat} {a x : gA} {o : gL} {v : gS} {k n cap : Nat} {q0 : Nat × Nat × Nat} {lo : Nat → Nat × Nat × Nat} {f : Nat → Int32} {w : Int32} {n0 : Nat} (hnp : np ≤ 32) (hr : gRow np k q0 lo cap) (hc : n ≤ cap) (hst : ∀ a' x', qk a a' → gr (a', x', o) v q0 = nI n ∧ ∀ i, i < cap → gr (a', x', o) v (lo i) = f i) (hf : ∀ i, i < n → ∃ q, q < np ∧ f i = nI q) (hn0 : a 0 21 = nI n0) (hx0 : x 2 0 = nI n0) (hd0 : dst (a 12) n0 np) : BdV l b_Gat_enqueueAll 5 R_Gat 1 [.ref (ad 24), .ref (ad k), .int w] g A ad np (a, x, o) v (fun t => ∃ x' nq, t = ((sQA f w a n, x', o), v) ∧ (∀ r j, ¬ (r = 2 ∧ j = 0) → x' r j = x r j) ∧ x' 2 0 = nI nq ∧ sQA f w a n 0 21 = nI nq ∧ dst (sQA f w a n 12) nq np) := by
  intro p e R s m args below meth c Q ls X hW hS hR hl hret
  have hx := X.1.1
  have hb := X.1.2.1
  have hml := X.1.2.2.1
  have hown := X.1.2.2.2.1
  have hts := X.1.2.2.2.2
  have hK := X.2.1
  have hl : lv_has ls 5 [(0, .ref (ad 24)), (1, .ref (ad k)), (2, .int w)] := hl
  have hcap := hr.2.2.2.2.1
  refine lv_iconst (v := 0) hx hb d_Gat_enqueueAll_0 (by decide) ?_
  refine lv_istore_n hx hb d_Gat_enqueueAll_1 rfl hl (by decide) rfl (fun ls hl => ?_)
  have hl : lv_has ls 5 [(3, .int 0), (0, .ref (ad 24)), (1, .ref (ad k)), (2, .int w)] := hl
  have lp2 : ∀ (fuel : Nat) (i : Nat) (x1 : gA) (nq : Nat) (ls : Array Slot) (H : Heap) (locs : List Loc), (i ≤ n) → (∀ r j, ¬ (r = 2 ∧ j = 0) → x1 r j = x r j) → (x1 2 0 = nI nq) → (sQA f w a i 0 21 = nI nq) → (dst (sQA f w a i 12) nq np) → n - i < fuel → lv_has ls 5 [(0, .ref (ad 24)), (1, .ref (ad k)), (2, .int w), (3, .int (nI i))] → gW g A ad np (sQA f w a i, x1, o) v H → va_S A s.heap H locs → W p l e R s m args below meth c H locs 0 0 Q (F0 m 2 ls []) := by
    intro fuel
    induction fuel with
    | zero => intro i x1 nq ls H locs _ _ _ _ _ hfu; exact absurd hfu (Nat.not_lt_zero _)
    | succ fuel ih2 =>
      intro i x1 nq ls H locs hi hxk hxq hq0 hd hfu hl hW hS
      refine lv_iload_n hx hb d_Gat_enqueueAll_2 rfl (lv_at hl 3 rfl) ?_
      refine lv_aload_n hx hb d_Gat_enqueueAll_3 rfl (lv_at hl 1 rfl) ?_
      refine gf_Gat_77 (z := nI n) X hW (Nat.lt_trans (Nat.lt_succ_self _) hr.1) hr.2.1 hr.2.2.2.2.2.1 hr.2.2.2.2.2.2.1 (hst _ x1 (qk_sQA f w a i)).1 d_Gat_enqueueAll_4 ?_
      refine lv_icmp_ge (tgt := 54) hx hb d_Gat_enqueueAll_7 (by decide) (fun h7 => ?_) (fun h7 => ?_)
      · -- 7 t
        have h7 : n ≤ i := (nI_leI (a := n) (b := i) (by omega) (by omega)).mp h7
        refine hret ((sQA f w a i, x1, o), v) _ _ _ _ ?_ hW hS d_Gat_enqueueAll_54
        rw [show n = i by omega]
        exact ⟨x1, nq, rfl, hxk, hxq, hq0, hd⟩
      · -- 7 f
        have h7 : i < n := Nat.lt_of_not_le fun q => h7 ((nI_leI (a := n) (b := i) (by omega) (by omega)).mpr q)
        have hnq : nq ≤ 32 := Nat.le_trans (dst_le hd hnp) hnp
        obtain ⟨qi, hqi, hfi⟩ := hf i (by omega)
        refine lv_aload_n hx hb d_Gat_enqueueAll_10 rfl (lv_at hl 1 rfl) ?_
        refine lv_iload_n hx hb d_Gat_enqueueAll_11 rfl (lv_at hl 3 rfl) ?_
        refine gc_iV (As := [.int (nI i)]) (b := ad k) (rest := []) X cw_Gat_80 (C_Row_at l (u := (sQA f w a i, x1, o)) (v := v) (x := nI i) hr (hst _ x1 (qk_sQA f w a i)).1 hc (hst _ x1 (qk_sQA f w a i)).2) hW hS (gW_recv (ci := 3) (fs := gf3 ad k) hK hW (Nat.lt_trans (Nat.lt_succ_self _) hr.1) (fun σ τ => ge_3 hr.2.1 σ τ) (r := (R_Row, F_Row, 2)) rfl) ⟨Nat.le_trans (Nat.le_of_ble_eq_true rfl) hR.1, Nat.le_trans (Nat.le_of_ble_eq_true rfl) hR.2⟩ rfl hl.1 rfl (Nat.le_of_ble_eq_true rfl) d_Gat_enqueueAll_12 ⟨Nat.zero_le _, Nat.zero_le _⟩ (fun r t H locs hp hW hS => ?_)
        obtain ⟨rfl, hr9⟩ := hp
        rw [at_in (by omega) (by omega)] at hr9
        subst hr9
        have hW : gW g A ad np (sQA f w a i, x1, o) v H := hW
        refine lv_istore hx hb d_Gat_enqueueAll_15 hl (by decide) rfl (fun ls hl => ?_)
        have hl : lv_has ls 5 [(4, .int (f i)), (0, .ref (ad 24)), (1, .ref (ad k)), (2, .int w), (3, .int (nI i))] := hl
        refine lv_aload_n hx hb d_Gat_enqueueAll_17 rfl (lv_at hl 1 rfl) ?_
        refine gf_Gat_20 X hW  d_Gat_enqueueAll_18 ?_
        refine lv_iload hx hb d_Gat_enqueueAll_21 (lv_at hl 0 rfl) ?_
        refine gc_iV (As := [.int (f i)]) (b := ad 25) (rest := []) X cw_Gat_88 (C_Row_holds l (u := (sQA f w a i, x1, o)) (v := v) (x := f i) (f := sQA f w a i 12) (gRow_25 np) hq0 hnq (fun i _ => rfl)) hW hS (gW_recv (ci := 3) (fs := gf3 ad 25) hK hW (by omega) (fun σ τ => ge_3 rfl σ τ) (r := (R_Row, F_Row, 2)) rfl) ⟨Nat.le_trans (Nat.le_of_ble_eq_true rfl) hR.1, Nat.le_trans (Nat.le_of_ble_eq_true rfl) hR.2⟩ rfl hl.1 rfl (Nat.le_of_ble_eq_true rfl) d_Gat_enqueueAll_23 ⟨Nat.zero_le _, Nat.zero_le _⟩ (fun r t H locs hp hW hS => ?_)
        obtain ⟨rfl, rfl⟩ := hp
        have hW : gW g A ad np (sQA f w a i, x1, o) v H := hW
        refine lv_if_ne (tgt := 48) hx hb d_Gat_enqueueAll_26 (by decide) (fun h26 => ?_) (fun h26 => ?_)
        · -- 26 t
          have h26 : (pEq (sQA f w a i 12) (f i) nq) = true := bI_n0 h26
          refine lv_iinc (v := nI (i + 1)) (k := 4) hx hb d_Gat_enqueueAll_48 hl rfl (nI_inc i) (by decide) rfl (fun ls hl => ?_)
          have hl : lv_has ls 5 [(3, .int (nI (i + 1))), (4, .int (f i)), (0, .ref (ad 24)), (1, .ref (ad k)), (2, .int w)] := hl
          refine lv_goto (tgt := 2) hx hb d_Gat_enqueueAll_51 (by decide) ?_
          have e9 : sQA f w a (i + 1) = _ := sQ_y hq0 (by omega) h26
          exact ih2 (i + 1) x1 nq _ _ _ (by omega) hxk hxq (by rw [e9]; exact hq0) (by rw [e9]; exact hd) (by omega) (lv_sub hl [2, 3, 4, 0] rfl) (by rw [e9]; exact hW) hS
        · -- 26 f
          have h26 : (pEq (sQA f w a i 12) (f i) nq) = false := bI_0 h26
          have hr32 : nq < 32 := dst_room hd hqi hfi h26 hnp
          refine lv_aload_n hx hb d_Gat_enqueueAll_29 rfl (lv_at hl 1 rfl) ?_
          refine gf_Gat_20 X hW  d_Gat_enqueueAll_30 ?_
          refine lv_iload hx hb d_Gat_enqueueAll_33 (lv_at hl 0 rfl) ?_
          refine gc_iV (As := [.int (f i)]) (b := ad 25) (rest := []) X cw_Gat_92 (C_Row_add l (u := (sQA f w a i, x1, o)) (v := v) (x := f i) (n := nq) (gRow_25 np) hq0 hnq) hW hS (gW_recv (ci := 3) (fs := gf3 ad 25) hK hW (by omega) (fun σ τ => ge_3 rfl σ τ) (r := (R_Row, F_Row, 2)) rfl) ⟨Nat.le_trans (Nat.le_of_ble_eq_true rfl) hR.1, Nat.le_trans (Nat.le_of_ble_eq_true rfl) hR.2⟩ rfl hl.1 rfl (Nat.le_of_ble_eq_true rfl) d_Gat_enqueueAll_35 ⟨Nat.zero_le _, Nat.zero_le _⟩ (fun r t H locs hp hW hS => ?_)
          obtain ⟨rfl, rfl⟩ := hp.1 hr32
          have hW : gW g A ad np (gu (gu (sQA f w a i) 12 nq (f i)) 0 21 (nI (nq + 1)), x1, o) v H := hW
          refine lv_pop hx hb d_Gat_enqueueAll_38 rfl ?_
          refine lv_aload_n hx hb d_Gat_enqueueAll_39 rfl (lv_at hl 1 rfl) ?_
          refine gf_Gat_24 X hW  d_Gat_enqueueAll_40 ?_
          refine lv_iload_n hx hb d_Gat_enqueueAll_43 rfl (lv_at hl 3 rfl) ?_
          refine gc_iV (As := [.int w]) (b := ad 27) (rest := []) X cw_Gat_92 (C_Row_add l (u := (gu (gu (sQA f w a i) 12 nq (f i)) 0 21 (nI (nq + 1)), x1, o)) (v := v) (x := w) (n := nq) (gRow_27 np) hxq hnq) hW hS (gW_recv (ci := 3) (fs := gf3 ad 27) hK hW (by omega) (fun σ τ => ge_3 rfl σ τ) (r := (R_Row, F_Row, 2)) rfl) ⟨Nat.le_trans (Nat.le_of_ble_eq_true rfl) hR.1, Nat.le_trans (Nat.le_of_ble_eq_true rfl) hR.2⟩ rfl hl.1 rfl (Nat.le_of_ble_eq_true rfl) d_Gat_enqueueAll_44 ⟨Nat.zero_le _, Nat.zero_le _⟩ (fun r t H locs hp hW hS => ?_)
          obtain ⟨rfl, rfl⟩ := hp.1 hr32
          have hW : gW g A ad np (gu (gu (gu (sQA f w a i) 12 nq (f i)) 0 21 (nI (nq + 1))) 13 nq w, gu x1 2 0 (nI (nq + 1)), o) v H := hW
          refine lv_pop hx hb d_Gat_enqueueAll_47 rfl ?_
          refine lv_iinc (v := nI (i + 1)) (k := 4) hx hb d_Gat_enqueueAll_48 hl rfl (nI_inc i) (by decide) rfl (fun ls hl => ?_)
          have hl : lv_has ls 5 [(3, .int (nI (i + 1))), (4, .int (f i)), (0, .ref (ad 24)), (1, .ref (ad k)), (2, .int w)] := hl
          refine lv_goto (tgt := 2) hx hb d_Gat_enqueueAll_51 (by decide) ?_
          have e9 : sQA f w a (i + 1) = _ := sQ_n hq0 (by omega) h26
          exact ih2 (i + 1) (gu x1 2 0 (nI (nq + 1))) (nq + 1) _ _ _ (by omega) (fun r j q => (gu_off q).trans (hxk r j q)) (gu_hit _ _ _ _) (by rw [e9]; rfl) (by rw [e9]; exact dst_push hd hqi hfi h26) (by omega) (lv_sub hl [2, 3, 4, 0] rfl) (by rw [e9]; exact hW) hS
  exact lp2 _ 0 x n0 _ _ _ (Nat.zero_le _) (fun _ _ _ => rfl) hx0 hn0 hd0 (Nat.lt_succ_self _) (lv_sub hl [1, 2, 3, 0] rfl) hW hS
theorem C_Gat_enqueueAll (l : Launch) {g : gG} {A : Nat → Prop} {ad : Nat → Nat} {np : Nat} {a x : gA} {o : gL} {v : gS} {k n cap : Nat} {q0 : Nat × Nat × Nat} {lo : Nat → Nat × Nat × Nat} {f : Nat → Int32} {w : Int32} {n0 : Nat} (hnp : np ≤ 32) (hr : gRow np k q0 lo cap) (hc : n ≤ cap) (hst : ∀ a' x', qk a a' → gr (a', x', o) v q0 = nI n ∧ ∀ i, i < cap → gr (a', x', o) v (lo i) = f i) (hf : ∀ i, i < n → ∃ q, q < np ∧ f i = nI q) (hn0 : a 0 21 = nI n0) (hx0 : x 2 0 = nI n0) (hd0 : dst (a 12) n0 np) : CtV l y_Gat_enqueueAll b_Gat_enqueueAll 5 1 [.ref (ad 24), .ref (ad k), .int w] g A ad np (a, x, o) v (fun t => ∃ x' nq, t = ((sQA f w a n, x', o), v) ∧ (∀ r j, ¬ (r = 2 ∧ j = 0) → x' r j = x r j) ∧ x' 2 0 = nI nq ∧ sQA f w a n 0 21 = nI nq ∧ dst (sQA f w a n 12) nq np) := mkV (by decide) rfl (Nat.le_of_ble_eq_true rfl) (B_Gat_enqueueAll l hnp hr hc hst hf hn0 hx0 hd0)

set_option maxHeartbeats 400000 in
set_option maxRecDepth 20000 in
theorem B_Gat_chase0 (l : Launch) {g : gG} {A : Nat → Prop} {ad : Nat → Nat} {np : Nat} {a x : gA} {o : gL} {v : gS} {P hp0 : Nat} (hw : WFw np a) (hwx : WX np a x) (hhp : a 0 15 = nI hp0) (hhp4 : hp0 ≤ 4) (hP : P < np) : BdI l b_Gat_chase 6 R_Gat 3 [.ref (ad 24), .int (nI P), .int 0] g A ad np (a, x, o) v (fun r t => t = ((a, x, o), v) ∧ r = sC2 a (hp0 + 1) P) := by
  intro p e R s m args below meth c Q ls X hW hS hR hl hret
  have hx := X.1.1
  have hb := X.1.2.1
  have hml := X.1.2.2.1
  have hown := X.1.2.2.2.1
  have hts := X.1.2.2.2.2
  have hK := X.2.1
  have hl : lv_has ls 6 [(0, .ref (ad 24)), (1, .int (nI P)), (2, .int 0)] := hl
  have hnp := hw.1
  refine lv_iload_n hx hb d_Gat_chase_0 rfl (lv_at hl 1 rfl) ?_
  refine lv_istore_n hx hb d_Gat_chase_1 rfl hl (by decide) rfl (fun ls hl => ?_)
  have hl : lv_has ls 6 [(3, .int (nI P)), (0, .ref (ad 24)), (1, .int (nI P)), (2, .int 0)] := hl
  refine lv_iconst (v := 0) hx hb d_Gat_chase_2 (by decide) ?_
  refine lv_istore hx hb d_Gat_chase_3 hl (by decide) rfl (fun ls hl => ?_)
  have hl : lv_has ls 6 [(4, .int 0), (3, .int (nI P)), (0, .ref (ad 24)), (1, .int (nI P)), (2, .int 0)] := hl
  have lp5 : ∀ (fuel : Nat) (k : Nat) (n : Nat) (P1 : Nat) (ls : Array Slot) (H : Heap) (locs : List Loc), (k + n = hp0 + 1) → (P1 < np) → (sC2 a (hp0 + 1) P = sC2 a n P1) → n < fuel → lv_has ls 6 [(0, .ref (ad 24)), (2, .int 0), (3, .int (nI P1)), (4, .int (nI k))] → gW g A ad np (a, x, o) v H → va_S A s.heap H locs → W p l e R s m args below meth c H locs 0 0 Q (F0 m 5 ls []) := by
    intro fuel
    induction fuel with
    | zero => intro k n P1 ls H locs _ _ _ hfu; exact absurd hfu (Nat.not_lt_zero _)
    | succ fuel ih5 =>
      intro k n P1 ls H locs hkn hP1 he hfu hl hW hS
      refine lv_iload hx hb d_Gat_chase_5 (lv_at hl 3 rfl) ?_
      refine lv_aload_n hx hb d_Gat_chase_7 rfl (lv_at hl 0 rfl) ?_
      refine gf_Gat_41 (z := nI hp0) X hW  (gv_0_0_15 _) rfl hhp d_Gat_chase_8 ?_
      refine lv_icmp_gt (tgt := 83) hx hb d_Gat_chase_11 (by decide) (fun h11 => ?_) (fun h11 => ?_)
      · -- 11 t
        have h11 : hp0 < k := (nI_ltI (a := hp0) (b := k) (by omega) (by omega)).mp h11
        refine lv_iconst (v := (-1)) hx hb d_Gat_chase_83 (by decide) ?_
        refine hret (-1) ((a, x, o), v) _ _ _ _ ?_ hW hS d_Gat_chase_84
        refine ⟨rfl, ?_⟩
        rw [he]
        cases n with
        | zero => rfl
        | succ n' =>
          show _ = (if _ then _ else _)
          rw [if_pos (by first | exact h22 | exact absurd h11 (by omega))]
      · -- 11 f
        have h11 : k ≤ hp0 := Nat.le_of_not_lt fun q => h11 ((nI_ltI (a := hp0) (b := k) (by omega) (by omega)).mpr q)
        refine lv_aload_n hx hb d_Gat_chase_14 rfl (lv_at hl 0 rfl) ?_
        refine gf_Gat_9 X hW  d_Gat_chase_15 ?_
        refine lv_iload_n hx hb d_Gat_chase_18 rfl (lv_at hl 2 rfl) ?_
        refine gc_iV (As := [.int (nI P1)]) (b := ad 1) (rest := []) X cw_Gat_107 (C_Web_isAllowed l (a := a) (x := x) (o := o) (v := v) hw hP1) hW hS (gW_recv (ci := 1) (fs := gf1 ad) hK hW (by omega) (fun σ τ => ge_1 rfl σ τ) (r := (R_Web, F_Web, 4)) rfl) ⟨Nat.le_trans (Nat.le_of_ble_eq_true rfl) hR.1, Nat.le_trans (Nat.le_of_ble_eq_true rfl) hR.2⟩ rfl hl.1 rfl (Nat.le_of_ble_eq_true rfl) d_Gat_chase_19 ⟨Nat.zero_le _, Nat.zero_le _⟩ (fun r t H locs hp hW hS => ?_)
        obtain ⟨rfl, rfl⟩ := hp
        have hW : gW g A ad np (a, x, o) v H := hW
        refine lv_if_eq (tgt := 83) hx hb d_Gat_chase_22 (by decide) (fun h22 => ?_) (fun h22 => ?_)
        · -- 22 t
          have h22 : (sAlw a P1) = false := bI_0 h22
          refine lv_iconst (v := (-1)) hx hb d_Gat_chase_83 (by decide) ?_
          refine hret (-1) ((a, x, o), v) _ _ _ _ ?_ hW hS d_Gat_chase_84
          refine ⟨rfl, ?_⟩
          rw [he]
          cases n with
          | zero => rfl
          | succ n' =>
            show _ = (if _ then _ else _)
            rw [if_pos (by first | exact h22 | exact absurd h11 (by omega))]
        · -- 22 f
          have h22 : (sAlw a P1) = true := bI_n0 h22
          refine lv_iload_n hx hb d_Gat_chase_25 rfl (lv_at hl 1 rfl) ?_
          refine lv_if_eq (tgt := 34) hx hb d_Gat_chase_26 (by decide) (fun h26 => ?_) (fun h26 => ?_)
          · -- 26 t
            obtain ⟨c9, hc3, hc9, hcH, hcG, hcM⟩ := WX_code hwx hnp hP1
            refine lv_aload_n hx hb d_Gat_chase_34 rfl (lv_at hl 0 rfl) ?_
            refine gf_Gat_9 X hW  d_Gat_chase_35 ?_
            refine gf_Gat_95 X hW  d_Gat_chase_38 ?_
            refine lv_iload_n hx hb d_Gat_chase_41 rfl (lv_at hl 2 rfl) ?_
            refine gy_aP (i := P1) hx hb hK hW (by omega) hnp rfl d_Gat_chase_42 ?_
            refine lv_astore hx hb d_Gat_chase_43 hl (by decide) rfl (fun ls hl => ?_)
            have hl : lv_has ls 6 [(5, .ref (ad (gp P1))), (0, .ref (ad 24)), (2, .int 0), (3, .int (nI P1)), (4, .int (nI k))] := hl
            refine lv_aload hx hb d_Gat_chase_45 (lv_at hl 0 rfl) ?_
            refine gf_Gat_113 (z := nI c9) X hW (by unfold gp; omega) (gk_p0 P1) (gv_1_0 (by omega)) (gi_1_0 _) hc9 d_Gat_chase_47 ?_
            refine gs_Gat_117 X hS d_Gat_chase_50 ?_
            refine lv_acmp_ne (rx := some (g.2.2 ((nI c9).toNatClampNeg))) (ry := some (g.2.2 0)) (tgt := 58) hx hb d_Gat_chase_53 (by decide) (fun h53 => ?_) (fun h53 => ?_)
            · -- 53 t
              have h53 : ¬ c9 = 0 := fun q => h53 ((en_eq X.2.2.1 hc3 (by decide)).mpr q)
              refine lv_aload hx hb d_Gat_chase_58 (lv_at hl 0 rfl) ?_
              refine gf_Gat_113 (z := nI c9) X hW (by unfold gp; omega) (gk_p0 P1) (gv_1_0 (by omega)) (gi_1_0 _) hc9 d_Gat_chase_60 ?_
              refine gs_Gat_122 X hS d_Gat_chase_63 ?_
              refine lv_acmp_ne (rx := some (g.2.2 ((nI c9).toNatClampNeg))) (ry := some (g.2.2 2)) (tgt := 71) hx hb d_Gat_chase_66 (by decide) (fun h66 => ?_) (fun h66 => ?_)
              · -- 66 t
                have h66 : ¬ c9 = 2 := fun q => h66 ((en_eq X.2.2.1 hc3 (by decide)).mpr q)
                obtain ⟨q9, hq9, e9, e10⟩ := hcM (by omega)
                refine lv_aload hx hb d_Gat_chase_71 (lv_at hl 0 rfl) ?_
                refine gf_Gat_125 (z := nI q9) X hW (by unfold gp; omega) (gk_p0 P1) (gv_1_1 (by omega)) (gi_1_1 _) e10 d_Gat_chase_73 ?_
                refine lv_istore_n hx hb d_Gat_chase_76 rfl hl (by decide) rfl (fun ls hl => ?_)
                have hl : lv_has ls 6 [(3, .int (nI q9)), (5, .ref (ad (gp P1))), (0, .ref (ad 24)), (2, .int 0), (4, .int (nI k))] := hl
                refine lv_iinc (v := nI (k + 1)) (k := 4) hx hb d_Gat_chase_77 hl rfl (nI_inc k) (by decide) rfl (fun ls hl => ?_)
                have hl : lv_has ls 6 [(4, .int (nI (k + 1))), (3, .int (nI q9)), (5, .ref (ad (gp P1))), (0, .ref (ad 24)), (2, .int 0)] := hl
                refine lv_goto (tgt := 5) hx hb d_Gat_chase_80 (by decide) ?_
                obtain ⟨n', rfl⟩ : ∃ n', n = n' + 1 := ⟨n - 1, by omega⟩
                exact ih5 (k + 1) n' q9 _ _ _ (by omega) hq9 (by rw [he]; show (if _ then _ else _) = _; rw [if_neg (by rw [h22]; decide), if_neg (fun q => h53 (hcH.mpr q)), if_neg (fun q => h66 (hcG.mpr q)), e9, nI_clamp (by omega)]) (by omega) (lv_sub hl [3, 4, 1, 0] rfl) hW hS
              · -- 66 f
                have h66 : c9 = 2 := (en_eq X.2.2.1 hc3 (by decide)).mp h66
                refine lv_iconst (v := (-1)) hx hb d_Gat_chase_69 (by decide) ?_
                refine hret (-1) ((a, x, o), v) _ _ _ _ ?_ hW hS d_Gat_chase_70
                obtain ⟨n', rfl⟩ : ∃ n', n = n' + 1 := ⟨n - 1, by omega⟩
                refine ⟨rfl, ?_⟩
                rw [he]
                show _ = (if _ then _ else _)
                rw [if_neg (by rw [h22]; decide), if_neg (fun q => h53 (hcH.mpr q)), if_pos (hcG.mp h66)]
            · -- 53 f
              have h53 : c9 = 0 := (en_eq X.2.2.1 hc3 (by decide)).mp h53
              refine lv_iload_n hx hb d_Gat_chase_56 rfl (lv_at hl 3 rfl) ?_
              refine hret (nI P1) ((a, x, o), v) _ _ _ _ ?_ hW hS d_Gat_chase_57
              obtain ⟨n', rfl⟩ : ∃ n', n = n' + 1 := ⟨n - 1, by omega⟩
              refine ⟨rfl, ?_⟩
              rw [he]
              show _ = (if _ then _ else _)
              rw [if_neg (by rw [h22]; decide), if_pos (hcH.mp h53)]
          · exact absurd rfl h26
  exact lp5 _ 0 (hp0 + 1) P _ _ _ (by omega) hP rfl (Nat.lt_succ_self _) (lv_sub hl [2, 4, 1, 0] rfl) hW hS
theorem C_Gat_chase0 (l : Launch) {g : gG} {A : Nat → Prop} {ad : Nat → Nat} {np : Nat} {a x : gA} {o : gL} {v : gS} {P hp0 : Nat} (hw : WFw np a) (hwx : WX np a x) (hhp : a 0 15 = nI hp0) (hhp4 : hp0 ≤ 4) (hP : P < np) : CtI l y_Gat_chase b_Gat_chase 6 .int 3 [.ref (ad 24), .int (nI P), .int 0] g A ad np (a, x, o) v (fun r t => t = ((a, x, o), v) ∧ r = sC2 a (hp0 + 1) P) := mkI (by decide) rfl (Nat.le_of_ble_eq_true rfl) (fun _ _ _ => rfl) (B_Gat_chase0 l hw hwx hhp hhp4 hP)

set_option maxHeartbeats 400000 in
set_option maxRecDepth 20000 in
theorem B_Gat_chase1 (l : Launch) {g : gG} {A : Nat → Prop} {ad : Nat → Nat} {np : Nat} {a x : gA} {o : gL} {v : gS} {P hp0 : Nat} {nf0 : Nat} (hw : WFw np a) (hwx : WX np a x) (hhp : a 0 15 = nI hp0) (hhp4 : hp0 ≤ 4) (hP : P < np) (hnf0 : a 0 23 = nI nf0) (hd0 : dst (a 14) nf0 np) : BdI l b_Gat_chase 6 R_Gat 3 [.ref (ad 24), .int (nI P), .int 1] g A ad np (a, x, o) v (fun r t => t = ((sF2 (hp0 + 1) a P, x, o), v) ∧ r = sC2 a (hp0 + 1) P) := by
  intro p e R s m args below meth c Q ls X hW hS hR hl hret
  have hx := X.1.1
  have hb := X.1.2.1
  have hml := X.1.2.2.1
  have hown := X.1.2.2.2.1
  have hts := X.1.2.2.2.2
  have hK := X.2.1
  have hl : lv_has ls 6 [(0, .ref (ad 24)), (1, .int (nI P)), (2, .int 1)] := hl
  have hnp := hw.1
  refine lv_iload_n hx hb d_Gat_chase_0 rfl (lv_at hl 1 rfl) ?_
  refine lv_istore_n hx hb d_Gat_chase_1 rfl hl (by decide) rfl (fun ls hl => ?_)
  have hl : lv_has ls 6 [(3, .int (nI P)), (0, .ref (ad 24)), (1, .int (nI P)), (2, .int 1)] := hl
  refine lv_iconst (v := 0) hx hb d_Gat_chase_2 (by decide) ?_
  refine lv_istore hx hb d_Gat_chase_3 hl (by decide) rfl (fun ls hl => ?_)
  have hl : lv_has ls 6 [(4, .int 0), (3, .int (nI P)), (0, .ref (ad 24)), (1, .int (nI P)), (2, .int 1)] := hl
  have lp5 : ∀ (fuel : Nat) (k : Nat) (n : Nat) (P1 : Nat) (a1 : gA) (nf : Nat) (ls : Array Slot) (H : Heap) (locs : List Loc), (k + n = hp0 + 1) → (P1 < np) → (wk a a1) → (sC2 a (hp0 + 1) P = sC2 a n P1) → (sF2 (hp0 + 1) a P = sF2 n a1 P1) → (a1 0 23 = nI nf) → (dst (a1 14) nf np) → n < fuel → lv_has ls 6 [(0, .ref (ad 24)), (2, .int 1), (3, .int (nI P1)), (4, .int (nI k))] → gW g A ad np (a1, x, o) v H → va_S A s.heap H locs → W p l e R s m args below meth c H locs 0 0 Q (F0 m 5 ls []) := by
    intro fuel
    induction fuel with
    | zero => intro k n P1 a1 nf ls H locs _ _ _ _ _ _ _ hfu; exact absurd hfu (Nat.not_lt_zero _)
    | succ fuel ih5 =>
      intro k n P1 a1 nf ls H locs hkn hP1 hk he hs hnf hd hfu hl hW hS
      refine lv_iload hx hb d_Gat_chase_5 (lv_at hl 3 rfl) ?_
      refine lv_aload_n hx hb d_Gat_chase_7 rfl (lv_at hl 0 rfl) ?_
      refine gf_Gat_41 (z := nI hp0) X hW  (gv_0_0_15 _) rfl ((hk.2 15 (by decide)).trans hhp) d_Gat_chase_8 ?_
      refine lv_icmp_gt (tgt := 83) hx hb d_Gat_chase_11 (by decide) (fun h11 => ?_) (fun h11 => ?_)
      · -- 11 t
        have h11 : hp0 < k := (nI_ltI (a := hp0) (b := k) (by omega) (by omega)).mp h11
        refine lv_iconst (v := (-1)) hx hb d_Gat_chase_83 (by decide) ?_
        refine hret (-1) ((a1, x, o), v) _ _ _ _ ?_ hW hS d_Gat_chase_84
        cases n with
        | zero => exact ⟨by rw [hs]; rfl, by rw [he]; rfl⟩
        | succ n' =>
          have h22 : sAlw a1 P1 = false := by first | exact h22 | exact absurd h11 (by omega)
          refine ⟨?_, ?_⟩
          · rw [hs]; show _ = ((if _ then _ else _, x, o), v); rw [if_pos h22]
          · rw [he]; show _ = (if _ then _ else _); rw [if_pos (by rw [← sAlw_wk hk]; exact h22)]
      · -- 11 f
        have h11 : k ≤ hp0 := Nat.le_of_not_lt fun q => h11 ((nI_ltI (a := hp0) (b := k) (by omega) (by omega)).mpr q)
        refine lv_aload_n hx hb d_Gat_chase_14 rfl (lv_at hl 0 rfl) ?_
        refine gf_Gat_9 X hW  d_Gat_chase_15 ?_
        refine lv_iload_n hx hb d_Gat_chase_18 rfl (lv_at hl 2 rfl) ?_
        refine gc_iV (As := [.int (nI P1)]) (b := ad 1) (rest := []) X cw_Gat_107 (C_Web_isAllowed l (a := a1) (x := x) (o := o) (v := v) (WFw_wk hk hw) hP1) hW hS (gW_recv (ci := 1) (fs := gf1 ad) hK hW (by omega) (fun σ τ => ge_1 rfl σ τ) (r := (R_Web, F_Web, 4)) rfl) ⟨Nat.le_trans (Nat.le_of_ble_eq_true rfl) hR.1, Nat.le_trans (Nat.le_of_ble_eq_true rfl) hR.2⟩ rfl hl.1 rfl (Nat.le_of_ble_eq_true rfl) d_Gat_chase_19 ⟨Nat.zero_le _, Nat.zero_le _⟩ (fun r t H locs hp hW hS => ?_)
        obtain ⟨rfl, rfl⟩ := hp
        have hW : gW g A ad np (a1, x, o) v H := hW
        refine lv_if_eq (tgt := 83) hx hb d_Gat_chase_22 (by decide) (fun h22 => ?_) (fun h22 => ?_)
        · -- 22 t
          have h22 : (sAlw a1 P1) = false := bI_0 h22
          refine lv_iconst (v := (-1)) hx hb d_Gat_chase_83 (by decide) ?_
          refine hret (-1) ((a1, x, o), v) _ _ _ _ ?_ hW hS d_Gat_chase_84
          cases n with
          | zero => exact ⟨by rw [hs]; rfl, by rw [he]; rfl⟩
          | succ n' =>
            have h22 : sAlw a1 P1 = false := by first | exact h22 | exact absurd h11 (by omega)
            refine ⟨?_, ?_⟩
            · rw [hs]; show _ = ((if _ then _ else _, x, o), v); rw [if_pos h22]
            · rw [he]; show _ = (if _ then _ else _); rw [if_pos (by rw [← sAlw_wk hk]; exact h22)]
        · -- 22 f
          have h22 : (sAlw a1 P1) = true := bI_n0 h22
          refine lv_iload_n hx hb d_Gat_chase_25 rfl (lv_at hl 1 rfl) ?_
          refine lv_if_eq (tgt := 34) hx hb d_Gat_chase_26 (by decide) (fun h26 => ?_) (fun h26 => ?_)
          · exact absurd h26 (by decide)
          · -- 26 f
            refine lv_aload_n hx hb d_Gat_chase_29 rfl (lv_at hl 0 rfl) ?_
            refine lv_iload_n hx hb d_Gat_chase_30 rfl (lv_at hl 2 rfl) ?_
            obtain ⟨⟨hh, hh6, hh1⟩, -⟩ := (WFw_wk hk hw).2.2.1 P1 hP1
            refine gc_vV (As := [.int (nI P1)]) (b := ad 24) (rest := []) X cw_Gat_110 (C_Gat_fetch l (a := a1) (x := x) (o := o) (v := v) hP1 hnp hh1 hh6 hnf hd) hW hS (gW_recv (ci := 5) (fs := gf5 ad) hK hW (by omega) (fun σ τ => ge_5 rfl σ τ) (r := (R_Gat, F_Gat, 17)) rfl) ⟨Nat.le_trans (Nat.le_of_ble_eq_true rfl) hR.1, Nat.le_trans (Nat.le_of_ble_eq_true rfl) hR.2⟩ rfl hl.1 rfl (Nat.le_of_ble_eq_true rfl) d_Gat_chase_31 ⟨Nat.zero_le _, Nat.zero_le _⟩ (fun t H locs hp hW hS => ?_)
            subst hp
            have hW : gW g A ad np (sFe a1 P1, x, o) v H := hW
            have hk2 := wk_tr hk (wk_sFe a1 P1)
            have h3 : sFe a1 P1 3 = a 3 := hk2.1 3 (by decide) (by decide)
            obtain ⟨c9, hc3, hc9, hcH, hcG, hcM⟩ := WX_code hwx hnp hP1
            have h22 : sAlw a1 P1 = true := h22
            have hal : sAlw a P1 = true := by rw [← sAlw_wk hk]; exact h22
            refine lv_aload_n hx hb d_Gat_chase_34 rfl (lv_at hl 0 rfl) ?_
            refine gf_Gat_9 X hW  d_Gat_chase_35 ?_
            refine gf_Gat_95 X hW  d_Gat_chase_38 ?_
            refine lv_iload_n hx hb d_Gat_chase_41 rfl (lv_at hl 2 rfl) ?_
            refine gy_aP (i := P1) hx hb hK hW (by omega) hnp rfl d_Gat_chase_42 ?_
            refine lv_astore hx hb d_Gat_chase_43 hl (by decide) rfl (fun ls hl => ?_)
            have hl : lv_has ls 6 [(5, .ref (ad (gp P1))), (0, .ref (ad 24)), (2, .int 1), (3, .int (nI P1)), (4, .int (nI k))] := hl
            refine lv_aload hx hb d_Gat_chase_45 (lv_at hl 0 rfl) ?_
            refine gf_Gat_113 (z := nI c9) X hW (by unfold gp; omega) (gk_p0 P1) (gv_1_0 (by omega)) (gi_1_0 _) hc9 d_Gat_chase_47 ?_
            refine gs_Gat_117 X hS d_Gat_chase_50 ?_
            refine lv_acmp_ne (rx := some (g.2.2 ((nI c9).toNatClampNeg))) (ry := some (g.2.2 0)) (tgt := 58) hx hb d_Gat_chase_53 (by decide) (fun h53 => ?_) (fun h53 => ?_)
            · -- 53 t
              have h53 : ¬ c9 = 0 := fun q => h53 ((en_eq X.2.2.1 hc3 (by decide)).mpr q)
              refine lv_aload hx hb d_Gat_chase_58 (lv_at hl 0 rfl) ?_
              refine gf_Gat_113 (z := nI c9) X hW (by unfold gp; omega) (gk_p0 P1) (gv_1_0 (by omega)) (gi_1_0 _) hc9 d_Gat_chase_60 ?_
              refine gs_Gat_122 X hS d_Gat_chase_63 ?_
              refine lv_acmp_ne (rx := some (g.2.2 ((nI c9).toNatClampNeg))) (ry := some (g.2.2 2)) (tgt := 71) hx hb d_Gat_chase_66 (by decide) (fun h66 => ?_) (fun h66 => ?_)
              · -- 66 t
                have h66 : ¬ c9 = 2 := fun q => h66 ((en_eq X.2.2.1 hc3 (by decide)).mpr q)
                obtain ⟨q9, hq9, e9, e10⟩ := hcM (by omega)
                refine lv_aload hx hb d_Gat_chase_71 (lv_at hl 0 rfl) ?_
                refine gf_Gat_125 (z := nI q9) X hW (by unfold gp; omega) (gk_p0 P1) (gv_1_1 (by omega)) (gi_1_1 _) e10 d_Gat_chase_73 ?_
                refine lv_istore_n hx hb d_Gat_chase_76 rfl hl (by decide) rfl (fun ls hl => ?_)
                have hl : lv_has ls 6 [(3, .int (nI q9)), (5, .ref (ad (gp P1))), (0, .ref (ad 24)), (2, .int 1), (4, .int (nI k))] := hl
                refine lv_iinc (v := nI (k + 1)) (k := 4) hx hb d_Gat_chase_77 hl rfl (nI_inc k) (by decide) rfl (fun ls hl => ?_)
                have hl : lv_has ls 6 [(4, .int (nI (k + 1))), (3, .int (nI q9)), (5, .ref (ad (gp P1))), (0, .ref (ad 24)), (2, .int 1)] := hl
                refine lv_goto (tgt := 5) hx hb d_Gat_chase_80 (by decide) ?_
                obtain ⟨n', rfl⟩ : ∃ n', n = n' + 1 := ⟨n - 1, by omega⟩
                have t1 : ¬ a 3 P1 = -2 := fun q => h53 (hcH.mpr q)
                have t2 : ¬ a 3 P1 = -3 := fun q => h66 (hcG.mpr q)
                have c1 : (a 3 P1).toNatClampNeg = q9 := by rw [e9, nI_clamp (by omega)]
                have ha3 : a1 3 = a 3 := hk.1 3 (by decide) (by decide)
                obtain ⟨nf2, hnf2, hd2⟩ := sFe_dst hnf hd hP1 hnp
                exact ih5 (k + 1) n' q9 (sFe a1 P1) nf2 _ _ _ (by omega) hq9 hk2 (by rw [he]; show (if _ then _ else _) = _; rw [if_neg (by rw [hal]; decide), if_neg t1, if_neg t2, c1]) (by rw [hs]; show (if _ then _ else _) = _; rw [if_neg (by rw [h22]; decide), ha3, if_neg (fun q => q.elim t1 t2), c1]) hnf2 hd2 (by omega) (lv_sub hl [3, 4, 1, 0] rfl) hW hS
              · -- 66 f
                have h66 : c9 = 2 := (en_eq X.2.2.1 hc3 (by decide)).mp h66
                refine lv_iconst (v := (-1)) hx hb d_Gat_chase_69 (by decide) ?_
                refine hret (-1) ((sFe a1 P1, x, o), v) _ _ _ _ ?_ hW hS d_Gat_chase_70
                obtain ⟨n', rfl⟩ : ∃ n', n = n' + 1 := ⟨n - 1, by omega⟩
                have ha3 : a1 3 = a 3 := hk.1 3 (by decide) (by decide)
                refine ⟨?_, ?_⟩
                · rw [hs]; show _ = ((if _ then _ else _, x, o), v); rw [if_neg (by rw [h22]; decide), ha3, if_pos (Or.inr (hcG.mp h66))]
                · rw [he]; show _ = (if _ then _ else _); rw [if_neg (by rw [hal]; decide), if_neg (fun q => h53 (hcH.mpr q)), if_pos (hcG.mp h66)]
            · -- 53 f
              have h53 : c9 = 0 := (en_eq X.2.2.1 hc3 (by decide)).mp h53
              refine lv_iload_n hx hb d_Gat_chase_56 rfl (lv_at hl 3 rfl) ?_
              refine hret (nI P1) ((sFe a1 P1, x, o), v) _ _ _ _ ?_ hW hS d_Gat_chase_57
              obtain ⟨n', rfl⟩ : ∃ n', n = n' + 1 := ⟨n - 1, by omega⟩
              have ha3 : a1 3 = a 3 := hk.1 3 (by decide) (by decide)
              refine ⟨?_, ?_⟩
              · rw [hs]; show _ = ((if _ then _ else _, x, o), v); rw [if_neg (by rw [h22]; decide), ha3, if_pos (Or.inl (hcH.mp h53))]
              · rw [he]; show _ = (if _ then _ else _); rw [if_neg (by rw [hal]; decide), if_pos (hcH.mp h53)]
  exact lp5 _ 0 (hp0 + 1) P a nf0 _ _ _ (by omega) hP (wk_rf a) rfl rfl hnf0 hd0 (Nat.lt_succ_self _) (lv_sub hl [2, 4, 1, 0] rfl) hW hS
theorem C_Gat_chase1 (l : Launch) {g : gG} {A : Nat → Prop} {ad : Nat → Nat} {np : Nat} {a x : gA} {o : gL} {v : gS} {P hp0 : Nat} {nf0 : Nat} (hw : WFw np a) (hwx : WX np a x) (hhp : a 0 15 = nI hp0) (hhp4 : hp0 ≤ 4) (hP : P < np) (hnf0 : a 0 23 = nI nf0) (hd0 : dst (a 14) nf0 np) : CtI l y_Gat_chase b_Gat_chase 6 .int 3 [.ref (ad 24), .int (nI P), .int 1] g A ad np (a, x, o) v (fun r t => t = ((sF2 (hp0 + 1) a P, x, o), v) ∧ r = sC2 a (hp0 + 1) P) := mkI (by decide) rfl (Nat.le_of_ble_eq_true rfl) (fun _ _ _ => rfl) (B_Gat_chase1 l hw hwx hhp hhp4 hP hnf0 hd0)

