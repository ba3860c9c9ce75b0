/-! specs_mod -/
set_option maxHeartbeats 400000 in
set_option maxRecDepth 20000 in
theorem B_Mod_isPage (l : Launch) {g : gG} {A : Nat → Prop} {ad : Nat → Nat} {np : Nat} {u : gS} {a x : gA} {o : gL} {w : Int32}  : BdI l b_Mod_isPage 2 R_Mod 0 [.ref (ad 74), .int w] g A ad np u (a, x, o) (fun r t => t = (u, (a, x, o)) ∧ r = bI (sIs a w)) := by
  intro p e R s m args below meth c Q ls X hW hS hR hl hret
  have hx := X.1.1
  have hb := X.1.2.1
  have hml := X.1.2.2.1
  have hown := X.1.2.2.2.1
  have hts := X.1.2.2.2.2
  have hK := X.2.1
  have hl : lv_has ls 2 [(0, .ref (ad 74)), (1, .int w)] := hl
  refine lv_iload_n hx hb d_Mod_isPage_0 rfl (lv_at hl 1 rfl) ?_
  refine lv_if_lt (tgt := 16) hx hb d_Mod_isPage_1 (by decide) (fun h1 => ?_) (fun h1 => ?_)
  · -- 1 t
    refine lv_iconst (v := 0) hx hb d_Mod_isPage_16 (by decide) ?_
    refine hret 0 (u, (a, x, o)) _ _ _ _ ?_ hW hS d_Mod_isPage_17
    first | exact ⟨rfl, by rw [sIs_f1 h1]; rfl⟩ | exact ⟨rfl, by rw [sIs_f2 h9]; rfl⟩
  · -- 1 f
    refine lv_iload_n hx hb d_Mod_isPage_4 rfl (lv_at hl 1 rfl) ?_
    refine lv_aload_n hx hb d_Mod_isPage_5 rfl (lv_at hl 0 rfl) ?_
    refine gf_Mod_69 (z := a 0 0) X hW  (gv_2_0_0 _) rfl rfl d_Mod_isPage_6 ?_
    refine lv_icmp_ge (tgt := 16) hx hb d_Mod_isPage_9 (by decide) (fun h9 => ?_) (fun h9 => ?_)
    · -- 9 t
      refine lv_iconst (v := 0) hx hb d_Mod_isPage_16 (by decide) ?_
      refine hret 0 (u, (a, x, o)) _ _ _ _ ?_ hW hS d_Mod_isPage_17
      first | exact ⟨rfl, by rw [sIs_f1 h1]; rfl⟩ | exact ⟨rfl, by rw [sIs_f2 h9]; rfl⟩
    · -- 9 f
      refine lv_iconst (v := 1) hx hb d_Mod_isPage_12 (by decide) ?_
      refine lv_goto (tgt := 17) hx hb d_Mod_isPage_13 (by decide) ?_
      refine hret 1 (u, (a, x, o)) _ _ _ _ ?_ hW hS d_Mod_isPage_17
      exact ⟨rfl, by rw [sIs_t h1 h9]; rfl⟩
theorem C_Mod_isPage (l : Launch) {g : gG} {A : Nat → Prop} {ad : Nat → Nat} {np : Nat} {u : gS} {a x : gA} {o : gL} {w : Int32}  : CtI l y_Mod_isPage b_Mod_isPage 2 .boolean 0 [.ref (ad 74), .int w] g A ad np u (a, x, o) (fun r t => t = (u, (a, x, o)) ∧ r = bI (sIs a w)) := mkI (by decide) rfl (Nat.le_of_ble_eq_true rfl) (fun r t h => h.2 ▸ bI_nar _) (B_Mod_isPage l )

set_option maxHeartbeats 400000 in
set_option maxRecDepth 20000 in
theorem B_Mod_write (l : Launch) {g : gG} {A : Nat → Prop} {ad : Nat → Nat} {np : Nat} {u : gS} {a x : gA} {o : gL} {nm : Nat} {w1 w2 : Int32} (hw : WFw nm a) : BdI l b_Mod_write 3 R_Mod 1 [.ref (ad 74), .int w1, .int w2] g A ad np u (a, x, o) (fun r t => t = (u, (sW a w1 w2, x, o)) ∧ r = bI (pW a w1 w2)) := by
  intro p e R s m args below meth c Q ls X hW hS hR hl hret
  have hx := X.1.1
  have hb := X.1.2.1
  have hml := X.1.2.2.1
  have hown := X.1.2.2.2.1
  have hts := X.1.2.2.2.2
  have hK := X.2.1
  have hl : lv_has ls 3 [(0, .ref (ad 74)), (1, .int w1), (2, .int w2)] := hl
  have hnp := hw.1
  have hpc := hw.2.1
  refine lv_aload_n hx hb d_Mod_write_0 rfl (lv_at hl 0 rfl) ?_
  refine gf_Mod_73 (z := a 0 13) X hW  (gv_2_0_13 _) rfl rfl d_Mod_write_1 ?_
  refine lv_if_ne (tgt := 36) hx hb d_Mod_write_4 (by decide) (fun h4 => ?_) (fun h4 => ?_)
  · -- 4 t
    refine lv_iconst (v := 0) hx hb d_Mod_write_36 (by decide) ?_
    refine hret 0 (u, (a, x, o)) _ _ _ _ ?_ hW hS d_Mod_write_37
    first
      | (have e9 : pW a w1 w2 = false := by unfold pW; rw [decide_eq_false h4]; rfl
         exact ⟨by unfold sW; rw [if_neg (by rw [e9]; decide)], by rw [e9]; rfl⟩)
      | (have e9 : pW a w1 w2 = false := by unfold pW; rw [h12]; simp; done
         exact ⟨by unfold sW; rw [if_neg (by rw [e9]; decide)], by rw [e9]; rfl⟩)
      | (have e9 : pW a (nI P) w2 = false := by unfold pW; rw [sIn_f1 h16]; simp; done
         exact ⟨by unfold sW; rw [if_neg (by rw [e9]; decide)], by rw [e9]; rfl⟩)
      | (have e9 : pW a (nI P) w2 = false := by unfold pW; rw [sIn_f2 h22]; simp; done
         exact ⟨by unfold sW; rw [if_neg (by rw [e9]; decide)], by rw [e9]; rfl⟩)
      | (have e9 : pW a (nI P) w2 = false := by unfold pW; rw [ewc, decide_eq_false (p := wc < 8) (by omega)]; simp; done
         exact ⟨by unfold sW; rw [if_neg (by rw [e9]; decide)], by rw [e9]; rfl⟩)
  · -- 4 f
    refine lv_aload_n hx hb d_Mod_write_7 rfl (lv_at hl 0 rfl) ?_
    refine lv_iload_n hx hb d_Mod_write_8 rfl (lv_at hl 1 rfl) ?_
    refine gc_iV (As := [.int w1]) (b := ad 74) (rest := []) X cw_Mod_78 (C_Mod_isPage l (u := u) (a := a) (x := x) (o := o) (w := w1)) hW hS (gW_recv (ci := 7) (fs := gf7 ad) hK hW (by omega) (fun σ τ => ge_7 rfl σ τ) (r := (R_Mod, F_Mod, 37)) rfl) ⟨Nat.le_trans (Nat.le_of_ble_eq_true rfl) hR.1, Nat.le_trans (Nat.le_of_ble_eq_true rfl) hR.2⟩ rfl hl.1 rfl (Nat.le_of_ble_eq_true rfl) d_Mod_write_9 ⟨Nat.zero_le _, Nat.zero_le _⟩ (fun r t H locs hp hW hS => ?_)
    obtain ⟨rfl, rfl⟩ := hp
    have hW : gW g A ad np u (a, x, o) H := hW
    refine lv_if_eq (tgt := 36) hx hb d_Mod_write_12 (by decide) (fun h12 => ?_) (fun h12 => ?_)
    · -- 12 t
      have h12 : (sIs a w1) = false := bI_0 h12
      refine lv_iconst (v := 0) hx hb d_Mod_write_36 (by decide) ?_
      refine hret 0 (u, (a, x, o)) _ _ _ _ ?_ hW hS d_Mod_write_37
      first
        | (have e9 : pW a w1 w2 = false := by unfold pW; rw [decide_eq_false h4]; rfl
           exact ⟨by unfold sW; rw [if_neg (by rw [e9]; decide)], by rw [e9]; rfl⟩)
        | (have e9 : pW a w1 w2 = false := by unfold pW; rw [h12]; simp; done
           exact ⟨by unfold sW; rw [if_neg (by rw [e9]; decide)], by rw [e9]; rfl⟩)
        | (have e9 : pW a (nI P) w2 = false := by unfold pW; rw [sIn_f1 h16]; simp; done
           exact ⟨by unfold sW; rw [if_neg (by rw [e9]; decide)], by rw [e9]; rfl⟩)
        | (have e9 : pW a (nI P) w2 = false := by unfold pW; rw [sIn_f2 h22]; simp; done
           exact ⟨by unfold sW; rw [if_neg (by rw [e9]; decide)], by rw [e9]; rfl⟩)
        | (have e9 : pW a (nI P) w2 = false := by unfold pW; rw [ewc, decide_eq_false (p := wc < 8) (by omega)]; simp; done
           exact ⟨by unfold sW; rw [if_neg (by rw [e9]; decide)], by rw [e9]; rfl⟩)
    · -- 12 f
      have h12 : (sIs a w1) = true := bI_n0 h12
      have h12a := h12
      obtain ⟨P, hP, rfl⟩ := sIs_of hpc hnp h12
      obtain ⟨wc, hwc8, hwc⟩ := (hw.2.2.1 P hP).2.2.2.1
      have ewc : (a 5 (nI P).toNatClampNeg).toNatClampNeg = wc := by rw [nI_clamp (by omega), hwc, nI_clamp (by omega)]
      refine lv_iload_n hx hb d_Mod_write_15 rfl (lv_at hl 2 rfl) ?_
      refine lv_if_lt (tgt := 36) hx hb d_Mod_write_16 (by decide) (fun h16 => ?_) (fun h16 => ?_)
      · -- 16 t
        refine lv_iconst (v := 0) hx hb d_Mod_write_36 (by decide) ?_
        refine hret 0 (u, (a, x, o)) _ _ _ _ ?_ hW hS d_Mod_write_37
        first
          | (have e9 : pW a w1 w2 = false := by unfold pW; rw [decide_eq_false h4]; rfl
             exact ⟨by unfold sW; rw [if_neg (by rw [e9]; decide)], by rw [e9]; rfl⟩)
          | (have e9 : pW a w1 w2 = false := by unfold pW; rw [h12]; simp; done
             exact ⟨by unfold sW; rw [if_neg (by rw [e9]; decide)], by rw [e9]; rfl⟩)
          | (have e9 : pW a (nI P) w2 = false := by unfold pW; rw [sIn_f1 h16]; simp; done
             exact ⟨by unfold sW; rw [if_neg (by rw [e9]; decide)], by rw [e9]; rfl⟩)
          | (have e9 : pW a (nI P) w2 = false := by unfold pW; rw [sIn_f2 h22]; simp; done
             exact ⟨by unfold sW; rw [if_neg (by rw [e9]; decide)], by rw [e9]; rfl⟩)
          | (have e9 : pW a (nI P) w2 = false := by unfold pW; rw [ewc, decide_eq_false (p := wc < 8) (by omega)]; simp; done
             exact ⟨by unfold sW; rw [if_neg (by rw [e9]; decide)], by rw [e9]; rfl⟩)
      · -- 16 f
        refine lv_iload_n hx hb d_Mod_write_19 rfl (lv_at hl 2 rfl) ?_
        refine lv_bipush (v := 25) hx hb d_Mod_write_20 (by decide) ?_
        refine lv_icmp_gt (tgt := 36) hx hb d_Mod_write_22 (by decide) (fun h22 => ?_) (fun h22 => ?_)
        · -- 22 t
          refine lv_iconst (v := 0) hx hb d_Mod_write_36 (by decide) ?_
          refine hret 0 (u, (a, x, o)) _ _ _ _ ?_ hW hS d_Mod_write_37
          first
            | (have e9 : pW a w1 w2 = false := by unfold pW; rw [decide_eq_false h4]; rfl
               exact ⟨by unfold sW; rw [if_neg (by rw [e9]; decide)], by rw [e9]; rfl⟩)
            | (have e9 : pW a w1 w2 = false := by unfold pW; rw [h12]; simp; done
               exact ⟨by unfold sW; rw [if_neg (by rw [e9]; decide)], by rw [e9]; rfl⟩)
            | (have e9 : pW a (nI P) w2 = false := by unfold pW; rw [sIn_f1 h16]; simp; done
               exact ⟨by unfold sW; rw [if_neg (by rw [e9]; decide)], by rw [e9]; rfl⟩)
            | (have e9 : pW a (nI P) w2 = false := by unfold pW; rw [sIn_f2 h22]; simp; done
               exact ⟨by unfold sW; rw [if_neg (by rw [e9]; decide)], by rw [e9]; rfl⟩)
            | (have e9 : pW a (nI P) w2 = false := by unfold pW; rw [ewc, decide_eq_false (p := wc < 8) (by omega)]; simp; done
               exact ⟨by unfold sW; rw [if_neg (by rw [e9]; decide)], by rw [e9]; rfl⟩)
        · -- 22 f
          refine lv_aload_n hx hb d_Mod_write_25 rfl (lv_at hl 0 rfl) ?_
          refine gf_Mod_22 X hW  d_Mod_write_26 ?_
          refine lv_iload_n hx hb d_Mod_write_29 rfl (lv_at hl 1 rfl) ?_
          refine gy_ia (z := nI wc) (q := (2, 5, P)) hx hb hK hW (by omega) rfl (show vp_in _ 32 from vp_in_nI (by omega) (by decide)) (gv_2_5 (by omega)) ((gi_2_5 _).trans (by rw [nI_clamp (by omega)])) hwc d_Mod_write_30 ?_
          refine lv_bipush (v := 8) hx hb d_Mod_write_31 (by decide) ?_
          refine lv_icmp_lt (tgt := 38) hx hb d_Mod_write_33 (by decide) (fun h33 => ?_) (fun h33 => ?_)
          · -- 33 t
            have h33 : wc < 8 := (nI_ltI (a := wc) (b := 8) (by omega) (by omega)).mp h33
            refine lv_aload_n hx hb d_Mod_write_38 rfl (lv_at hl 0 rfl) ?_
            refine gf_Mod_19 X hW  d_Mod_write_39 ?_
            refine lv_bipush (v := 8) hx hb d_Mod_write_42 (by decide) ?_
            refine lv_iload_n hx hb d_Mod_write_44 rfl (lv_at hl 1 rfl) ?_
            refine lv_imul hx hb d_Mod_write_45 ?_
            rw [show 8 * (nI P) = nI (8 * P) from pk_mul 8 P]
            refine lv_aload_n hx hb d_Mod_write_46 rfl (lv_at hl 0 rfl) ?_
            refine gf_Mod_22 X hW  d_Mod_write_47 ?_
            refine lv_iload_n hx hb d_Mod_write_50 rfl (lv_at hl 1 rfl) ?_
            refine gy_ia (z := nI wc) (q := (2, 5, P)) hx hb hK hW (by omega) rfl (show vp_in _ 32 from vp_in_nI (by omega) (by decide)) (gv_2_5 (by omega)) ((gi_2_5 _).trans (by rw [nI_clamp (by omega)])) hwc d_Mod_write_51 ?_
            refine lv_iadd hx hb d_Mod_write_52 ?_
            rw [show (nI (8 * P)) + (nI wc) = nI (8 * P + wc) from nI_add _ _]
            refine lv_iload_n hx hb d_Mod_write_53 rfl (lv_at hl 2 rfl) ?_
            refine gy_is (z := w2) (q := (2, 4, (8 * P + wc))) hx hb hK hW hS (by omega) rfl (show vp_in _ 256 from vp_in_nI (by omega) (by decide)) (gv_2_4 (by omega)) ((gi_2_4 _).trans (by rw [nI_clamp (by omega)])) d_Mod_write_54 (fun H locs hW hS => ?_)
            have hW : gW g A ad np u (gu a 4 (8 * P + wc) w2, x, o) H := hW
            refine lv_aload_n hx hb d_Mod_write_55 rfl (lv_at hl 0 rfl) ?_
            refine gf_Mod_22 X hW  d_Mod_write_56 ?_
            refine lv_iload_n hx hb d_Mod_write_59 rfl (lv_at hl 1 rfl) ?_
            refine lv_aload_n hx hb d_Mod_write_60 rfl (lv_at hl 0 rfl) ?_
            refine gf_Mod_22 X hW  d_Mod_write_61 ?_
            refine lv_iload_n hx hb d_Mod_write_64 rfl (lv_at hl 1 rfl) ?_
            refine gy_ia (z := nI wc) (q := (2, 5, P)) hx hb hK hW (by omega) rfl (show vp_in _ 32 from vp_in_nI (by omega) (by decide)) (gv_2_5 (by omega)) ((gi_2_5 _).trans (by rw [nI_clamp (by omega)])) hwc d_Mod_write_65 ?_
            refine lv_iconst (v := 1) hx hb d_Mod_write_66 (by decide) ?_
            refine lv_iadd hx hb d_Mod_write_67 ?_
            rw [show (nI wc) + 1 = nI (wc + 1) from nI_1 wc]
            refine gy_is (z := nI (wc + 1)) (q := (2, 5, P)) hx hb hK hW hS (by omega) rfl (show vp_in _ 32 from vp_in_nI (by omega) (by decide)) (gv_2_5 (by omega)) ((gi_2_5 _).trans (by rw [nI_clamp (by omega)])) d_Mod_write_68 (fun H locs hW hS => ?_)
            have hW : gW g A ad np u (gu (gu a 4 (8 * P + wc) w2) 5 P (nI (wc + 1)), x, o) H := hW
            refine lv_iconst (v := 1) hx hb d_Mod_write_69 (by decide) ?_
            refine hret 1 (u, (gu (gu a 4 (8 * P + wc) w2) 5 P (nI (wc + 1)), x, o)) _ _ _ _ ?_ hW hS d_Mod_write_70
            have e9 : pW a (nI P) w2 = true := by unfold pW; rw [decide_eq_true h4, h12a, sIn_t h16 h22, ewc, decide_eq_true h33]; rfl
            exact ⟨by unfold sW; rw [if_pos e9, ewc, nI_clamp (by omega)], by rw [e9]; rfl⟩
          · -- 33 f
            have h33 : 8 ≤ wc := Nat.le_of_not_lt fun q => h33 ((nI_ltI (a := wc) (b := 8) (by omega) (by omega)).mpr q)
            refine lv_iconst (v := 0) hx hb d_Mod_write_36 (by decide) ?_
            refine hret 0 (u, (a, x, o)) _ _ _ _ ?_ hW hS d_Mod_write_37
            first
              | (have e9 : pW a w1 w2 = false := by unfold pW; rw [decide_eq_false h4]; rfl
                 exact ⟨by unfold sW; rw [if_neg (by rw [e9]; decide)], by rw [e9]; rfl⟩)
              | (have e9 : pW a w1 w2 = false := by unfold pW; rw [h12]; simp; done
                 exact ⟨by unfold sW; rw [if_neg (by rw [e9]; decide)], by rw [e9]; rfl⟩)
              | (have e9 : pW a (nI P) w2 = false := by unfold pW; rw [sIn_f1 h16]; simp; done
                 exact ⟨by unfold sW; rw [if_neg (by rw [e9]; decide)], by rw [e9]; rfl⟩)
              | (have e9 : pW a (nI P) w2 = false := by unfold pW; rw [sIn_f2 h22]; simp; done
                 exact ⟨by unfold sW; rw [if_neg (by rw [e9]; decide)], by rw [e9]; rfl⟩)
              | (have e9 : pW a (nI P) w2 = false := by unfold pW; rw [ewc, decide_eq_false (p := wc < 8) (by omega)]; simp; done
                 exact ⟨by unfold sW; rw [if_neg (by rw [e9]; decide)], by rw [e9]; rfl⟩)
theorem C_Mod_write (l : Launch) {g : gG} {A : Nat → Prop} {ad : Nat → Nat} {np : Nat} {u : gS} {a x : gA} {o : gL} {nm : Nat} {w1 w2 : Int32} (hw : WFw nm a) : CtI l y_Mod_write b_Mod_write 3 .boolean 1 [.ref (ad 74), .int w1, .int w2] g A ad np u (a, x, o) (fun r t => t = (u, (sW a w1 w2, x, o)) ∧ r = bI (pW a w1 w2)) := mkI (by decide) rfl (Nat.le_of_ble_eq_true rfl) (fun r t h => h.2 ▸ bI_nar _) (B_Mod_write l hw)

set_option maxHeartbeats 400000 in
set_option maxRecDepth 20000 in
theorem B_Mod_link (l : Launch) {g : gG} {A : Nat → Prop} {ad : Nat → Nat} {np : Nat} {u : gS} {a x : gA} {o : gL} {nm : Nat} {w1 w2 : Int32} (hw : WFw nm a) : BdI l b_Mod_link 3 R_Mod 1 [.ref (ad 74), .int w1, .int w2] g A ad np u (a, x, o) (fun r t => t = (u, (sK a w1 w2, x, o)) ∧ r = bI (pK a w1 w2)) := by
  intro p e R s m args below meth c Q ls X hW hS hR hl hret
  have hx := X.1.1
  have hb := X.1.2.1
  have hml := X.1.2.2.1
  have hown := X.1.2.2.2.1
  have hts := X.1.2.2.2.2
  have hK := X.2.1
  have hl : lv_has ls 3 [(0, .ref (ad 74)), (1, .int w1), (2, .int w2)] := hl
  have hnp := hw.1
  have hpc := hw.2.1
  refine lv_aload_n hx hb d_Mod_link_0 rfl (lv_at hl 0 rfl) ?_
  refine gf_Mod_73 (z := a 0 13) X hW  (gv_2_0_13 _) rfl rfl d_Mod_link_1 ?_
  refine lv_if_ne (tgt := 33) hx hb d_Mod_link_4 (by decide) (fun h4 => ?_) (fun h4 => ?_)
  · -- 4 t
    refine lv_iconst (v := 0) hx hb d_Mod_link_33 (by decide) ?_
    refine hret 0 (u, (a, x, o)) _ _ _ _ ?_ hW hS d_Mod_link_34
    first
      | (have e9 : pK a w1 w2 = false := by unfold pK; rw [decide_eq_false h4]; rfl
         exact ⟨by unfold sK; rw [if_neg (by rw [e9]; decide)], by rw [e9]; rfl⟩)
      | (have e9 : pK a w1 w2 = false := by unfold pK; rw [h12]; simp; done
         exact ⟨by unfold sK; rw [if_neg (by rw [e9]; decide)], by rw [e9]; rfl⟩)
      | (have e9 : pK a (nI P) w2 = false := by unfold pK; rw [h20]; simp; done
         exact ⟨by unfold sK; rw [if_neg (by rw [e9]; decide)], by rw [e9]; rfl⟩)
      | (have e9 : pK a (nI P) w2 = false := by unfold pK; rw [ewc, decide_eq_false (p := wc < 5) (by omega)]; simp; done
         exact ⟨by unfold sK; rw [if_neg (by rw [e9]; decide)], by rw [e9]; rfl⟩)
  · -- 4 f
    refine lv_aload_n hx hb d_Mod_link_7 rfl (lv_at hl 0 rfl) ?_
    refine lv_iload_n hx hb d_Mod_link_8 rfl (lv_at hl 1 rfl) ?_
    refine gc_iV (As := [.int w1]) (b := ad 74) (rest := []) X cw_Mod_78 (C_Mod_isPage l (u := u) (a := a) (x := x) (o := o) (w := w1)) hW hS (gW_recv (ci := 7) (fs := gf7 ad) hK hW (by omega) (fun σ τ => ge_7 rfl σ τ) (r := (R_Mod, F_Mod, 37)) rfl) ⟨Nat.le_trans (Nat.le_of_ble_eq_true rfl) hR.1, Nat.le_trans (Nat.le_of_ble_eq_true rfl) hR.2⟩ rfl hl.1 rfl (Nat.le_of_ble_eq_true rfl) d_Mod_link_9 ⟨Nat.zero_le _, Nat.zero_le _⟩ (fun r t H locs hp hW hS => ?_)
    obtain ⟨rfl, rfl⟩ := hp
    have hW : gW g A ad np u (a, x, o) H := hW
    refine lv_if_eq (tgt := 33) hx hb d_Mod_link_12 (by decide) (fun h12 => ?_) (fun h12 => ?_)
    · -- 12 t
      have h12 : (sIs a w1) = false := bI_0 h12
      refine lv_iconst (v := 0) hx hb d_Mod_link_33 (by decide) ?_
      refine hret 0 (u, (a, x, o)) _ _ _ _ ?_ hW hS d_Mod_link_34
      first
        | (have e9 : pK a w1 w2 = false := by unfold pK; rw [decide_eq_false h4]; rfl
           exact ⟨by unfold sK; rw [if_neg (by rw [e9]; decide)], by rw [e9]; rfl⟩)
        | (have e9 : pK a w1 w2 = false := by unfold pK; rw [h12]; simp; done
           exact ⟨by unfold sK; rw [if_neg (by rw [e9]; decide)], by rw [e9]; rfl⟩)
        | (have e9 : pK a (nI P) w2 = false := by unfold pK; rw [h20]; simp; done
           exact ⟨by unfold sK; rw [if_neg (by rw [e9]; decide)], by rw [e9]; rfl⟩)
        | (have e9 : pK a (nI P) w2 = false := by unfold pK; rw [ewc, decide_eq_false (p := wc < 5) (by omega)]; simp; done
           exact ⟨by unfold sK; rw [if_neg (by rw [e9]; decide)], by rw [e9]; rfl⟩)
    · -- 12 f
      have h12 : (sIs a w1) = true := bI_n0 h12
      have h12a := h12
      obtain ⟨P, hP, rfl⟩ := sIs_of hpc hnp h12
      obtain ⟨wc, hwc8, hwc, -⟩ := (hw.2.2.1 P hP).2.2.2.2
      have ewc : (a 7 (nI P).toNatClampNeg).toNatClampNeg = wc := by rw [nI_clamp (by omega), hwc, nI_clamp (by omega)]
      refine lv_aload_n hx hb d_Mod_link_15 rfl (lv_at hl 0 rfl) ?_
      refine lv_iload_n hx hb d_Mod_link_16 rfl (lv_at hl 2 rfl) ?_
      refine gc_iV (As := [.int w2]) (b := ad 74) (rest := []) X cw_Mod_78 (C_Mod_isPage l (u := u) (a := a) (x := x) (o := o) (w := w2)) hW hS (gW_recv (ci := 7) (fs := gf7 ad) hK hW (by omega) (fun σ τ => ge_7 rfl σ τ) (r := (R_Mod, F_Mod, 37)) rfl) ⟨Nat.le_trans (Nat.le_of_ble_eq_true rfl) hR.1, Nat.le_trans (Nat.le_of_ble_eq_true rfl) hR.2⟩ rfl hl.1 rfl (Nat.le_of_ble_eq_true rfl) d_Mod_link_17 ⟨Nat.zero_le _, Nat.zero_le _⟩ (fun r t H locs hp hW hS => ?_)
      obtain ⟨rfl, rfl⟩ := hp
      have hW : gW g A ad np u (a, x, o) H := hW
      refine lv_if_eq (tgt := 33) hx hb d_Mod_link_20 (by decide) (fun h20 => ?_) (fun h20 => ?_)
      · -- 20 t
        have h20 : (sIs a w2) = false := bI_0 h20
        refine lv_iconst (v := 0) hx hb d_Mod_link_33 (by decide) ?_
        refine hret 0 (u, (a, x, o)) _ _ _ _ ?_ hW hS d_Mod_link_34
        first
          | (have e9 : pK a w1 w2 = false := by unfold pK; rw [decide_eq_false h4]; rfl
             exact ⟨by unfold sK; rw [if_neg (by rw [e9]; decide)], by rw [e9]; rfl⟩)
          | (have e9 : pK a w1 w2 = false := by unfold pK; rw [h12]; simp; done
             exact ⟨by unfold sK; rw [if_neg (by rw [e9]; decide)], by rw [e9]; rfl⟩)
          | (have e9 : pK a (nI P) w2 = false := by unfold pK; rw [h20]; simp; done
             exact ⟨by unfold sK; rw [if_neg (by rw [e9]; decide)], by rw [e9]; rfl⟩)
          | (have e9 : pK a (nI P) w2 = false := by unfold pK; rw [ewc, decide_eq_false (p := wc < 5) (by omega)]; simp; done
             exact ⟨by unfold sK; rw [if_neg (by rw [e9]; decide)], by rw [e9]; rfl⟩)
      · -- 20 f
        have h20 : (sIs a w2) = true := bI_n0 h20
        refine lv_aload_n hx hb d_Mod_link_23 rfl (lv_at hl 0 rfl) ?_
        refine gf_Mod_28 X hW  d_Mod_link_24 ?_
        refine lv_iload_n hx hb d_Mod_link_27 rfl (lv_at hl 1 rfl) ?_
        refine gy_ia (z := nI wc) (q := (2, 7, P)) hx hb hK hW (by omega) rfl (show vp_in _ 32 from vp_in_nI (by omega) (by decide)) (gv_2_7 (by omega)) ((gi_2_7 _).trans (by rw [nI_clamp (by omega)])) hwc d_Mod_link_28 ?_
        refine lv_iconst (v := 5) hx hb d_Mod_link_29 (by decide) ?_
        refine lv_icmp_lt (tgt := 35) hx hb d_Mod_link_30 (by decide) (fun h30 => ?_) (fun h30 => ?_)
        · -- 30 t
          have h30 : wc < 5 := (nI_ltI (a := wc) (b := 5) (by omega) (by omega)).mp h30
          refine lv_aload_n hx hb d_Mod_link_35 rfl (lv_at hl 0 rfl) ?_
          refine gf_Mod_25 X hW  d_Mod_link_36 ?_
          refine lv_iconst (v := 5) hx hb d_Mod_link_39 (by decide) ?_
          refine lv_iload_n hx hb d_Mod_link_40 rfl (lv_at hl 1 rfl) ?_
          refine lv_imul hx hb d_Mod_link_41 ?_
          rw [show 5 * (nI P) = nI (5 * P) from pk_mul 5 P]
          refine lv_aload_n hx hb d_Mod_link_42 rfl (lv_at hl 0 rfl) ?_
          refine gf_Mod_28 X hW  d_Mod_link_43 ?_
          refine lv_iload_n hx hb d_Mod_link_46 rfl (lv_at hl 1 rfl) ?_
          refine gy_ia (z := nI wc) (q := (2, 7, P)) hx hb hK hW (by omega) rfl (show vp_in _ 32 from vp_in_nI (by omega) (by decide)) (gv_2_7 (by omega)) ((gi_2_7 _).trans (by rw [nI_clamp (by omega)])) hwc d_Mod_link_47 ?_
          refine lv_iadd hx hb d_Mod_link_48 ?_
          rw [show (nI (5 * P)) + (nI wc) = nI (5 * P + wc) from nI_add _ _]
          refine lv_iload_n hx hb d_Mod_link_49 rfl (lv_at hl 2 rfl) ?_
          refine gy_is (z := w2) (q := (2, 6, (5 * P + wc))) hx hb hK hW hS (by omega) rfl (show vp_in _ 160 from vp_in_nI (by omega) (by decide)) (gv_2_6 (by omega)) ((gi_2_6 _).trans (by rw [nI_clamp (by omega)])) d_Mod_link_50 (fun H locs hW hS => ?_)
          have hW : gW g A ad np u (gu a 6 (5 * P + wc) w2, x, o) H := hW
          refine lv_aload_n hx hb d_Mod_link_51 rfl (lv_at hl 0 rfl) ?_
          refine gf_Mod_28 X hW  d_Mod_link_52 ?_
          refine lv_iload_n hx hb d_Mod_link_55 rfl (lv_at hl 1 rfl) ?_
          refine lv_aload_n hx hb d_Mod_link_56 rfl (lv_at hl 0 rfl) ?_
          refine gf_Mod_28 X hW  d_Mod_link_57 ?_
          refine lv_iload_n hx hb d_Mod_link_60 rfl (lv_at hl 1 rfl) ?_
          refine gy_ia (z := nI wc) (q := (2, 7, P)) hx hb hK hW (by omega) rfl (show vp_in _ 32 from vp_in_nI (by omega) (by decide)) (gv_2_7 (by omega)) ((gi_2_7 _).trans (by rw [nI_clamp (by omega)])) hwc d_Mod_link_61 ?_
          refine lv_iconst (v := 1) hx hb d_Mod_link_62 (by decide) ?_
          refine lv_iadd hx hb d_Mod_link_63 ?_
          rw [show (nI wc) + 1 = nI (wc + 1) from nI_1 wc]
          refine gy_is (z := nI (wc + 1)) (q := (2, 7, P)) hx hb hK hW hS (by omega) rfl (show vp_in _ 32 from vp_in_nI (by omega) (by decide)) (gv_2_7 (by omega)) ((gi_2_7 _).trans (by rw [nI_clamp (by omega)])) d_Mod_link_64 (fun H locs hW hS => ?_)
          have hW : gW g A ad np u (gu (gu a 6 (5 * P + wc) w2) 7 P (nI (wc + 1)), x, o) H := hW
          refine lv_iconst (v := 1) hx hb d_Mod_link_65 (by decide) ?_
          refine hret 1 (u, (gu (gu a 6 (5 * P + wc) w2) 7 P (nI (wc + 1)), x, o)) _ _ _ _ ?_ hW hS d_Mod_link_66
          have e9 : pK a (nI P) w2 = true := by unfold pK; rw [decide_eq_true h4, h12a, h20, ewc, decide_eq_true h30]; rfl
          exact ⟨by unfold sK; rw [if_pos e9, ewc, nI_clamp (by omega)], by rw [e9]; rfl⟩
        · -- 30 f
          have h30 : 5 ≤ wc := Nat.le_of_not_lt fun q => h30 ((nI_ltI (a := wc) (b := 5) (by omega) (by omega)).mpr q)
          refine lv_iconst (v := 0) hx hb d_Mod_link_33 (by decide) ?_
          refine hret 0 (u, (a, x, o)) _ _ _ _ ?_ hW hS d_Mod_link_34
          first
            | (have e9 : pK a w1 w2 = false := by unfold pK; rw [decide_eq_false h4]; rfl
               exact ⟨by unfold sK; rw [if_neg (by rw [e9]; decide)], by rw [e9]; rfl⟩)
            | (have e9 : pK a w1 w2 = false := by unfold pK; rw [h12]; simp; done
               exact ⟨by unfold sK; rw [if_neg (by rw [e9]; decide)], by rw [e9]; rfl⟩)
            | (have e9 : pK a (nI P) w2 = false := by unfold pK; rw [h20]; simp; done
               exact ⟨by unfold sK; rw [if_neg (by rw [e9]; decide)], by rw [e9]; rfl⟩)
            | (have e9 : pK a (nI P) w2 = false := by unfold pK; rw [ewc, decide_eq_false (p := wc < 5) (by omega)]; simp; done
               exact ⟨by unfold sK; rw [if_neg (by rw [e9]; decide)], by rw [e9]; rfl⟩)
theorem C_Mod_link (l : Launch) {g : gG} {A : Nat → Prop} {ad : Nat → Nat} {np : Nat} {u : gS} {a x : gA} {o : gL} {nm : Nat} {w1 w2 : Int32} (hw : WFw nm a) : CtI l y_Mod_link b_Mod_link 3 .boolean 1 [.ref (ad 74), .int w1, .int w2] g A ad np u (a, x, o) (fun r t => t = (u, (sK a w1 w2, x, o)) ∧ r = bI (pK a w1 w2)) := mkI (by decide) rfl (Nat.le_of_ble_eq_true rfl) (fun r t h => h.2 ▸ bI_nar _) (B_Mod_link l hw)

set_option maxHeartbeats 400000 in
set_option maxRecDepth 20000 in
theorem B_Mod_move (l : Launch) {g : gG} {A : Nat → Prop} {ad : Nat → Nat} {np : Nat} {u : gS} {a x : gA} {o : gL} {nm : Nat} {w1 w2 : Int32} (hw : WFw nm a) : BdI l b_Mod_move 3 R_Mod 1 [.ref (ad 74), .int w1, .int w2] g A ad np u (a, x, o) (fun r t => t = (u, (sM a w1 w2, x, o)) ∧ r = bI (pM a w1 w2)) := by
  intro p e R s m args below meth c Q ls X hW hS hR hl hret
  have hx := X.1.1
  have hb := X.1.2.1
  have hml := X.1.2.2.1
  have hown := X.1.2.2.2.1
  have hts := X.1.2.2.2.2
  have hK := X.2.1
  have hl : lv_has ls 3 [(0, .ref (ad 74)), (1, .int w1), (2, .int w2)] := hl
  have hnp := hw.1
  have hpc := hw.2.1
  refine lv_aload_n hx hb d_Mod_move_0 rfl (lv_at hl 0 rfl) ?_
  refine gf_Mod_73 (z := a 0 13) X hW  (gv_2_0_13 _) rfl rfl d_Mod_move_1 ?_
  refine lv_if_ne (tgt := 23) hx hb d_Mod_move_4 (by decide) (fun h4 => ?_) (fun h4 => ?_)
  · -- 4 t
    refine lv_iconst (v := 0) hx hb d_Mod_move_23 (by decide) ?_
    refine hret 0 (u, (a, x, o)) _ _ _ _ ?_ hW hS d_Mod_move_24
    first
      | (have e9 : pM a w1 w2 = false := by unfold pM; rw [decide_eq_false h4]; rfl
         exact ⟨by unfold sM; rw [if_neg (by rw [e9]; decide)], by rw [e9]; rfl⟩)
      | (have e9 : pM a w1 w2 = false := by unfold pM; rw [h12]; simp; done
         exact ⟨by unfold sM; rw [if_neg (by rw [e9]; decide)], by rw [e9]; rfl⟩)
      | (have e9 : pM a (nI P) w2 = false := by unfold pM; rw [h20]; simp; done
         exact ⟨by unfold sM; rw [if_neg (by rw [e9]; decide)], by rw [e9]; rfl⟩)
  · -- 4 f
    refine lv_aload_n hx hb d_Mod_move_7 rfl (lv_at hl 0 rfl) ?_
    refine lv_iload_n hx hb d_Mod_move_8 rfl (lv_at hl 1 rfl) ?_
    refine gc_iV (As := [.int w1]) (b := ad 74) (rest := []) X cw_Mod_78 (C_Mod_isPage l (u := u) (a := a) (x := x) (o := o) (w := w1)) hW hS (gW_recv (ci := 7) (fs := gf7 ad) hK hW (by omega) (fun σ τ => ge_7 rfl σ τ) (r := (R_Mod, F_Mod, 37)) rfl) ⟨Nat.le_trans (Nat.le_of_ble_eq_true rfl) hR.1, Nat.le_trans (Nat.le_of_ble_eq_true rfl) hR.2⟩ rfl hl.1 rfl (Nat.le_of_ble_eq_true rfl) d_Mod_move_9 ⟨Nat.zero_le _, Nat.zero_le _⟩ (fun r t H locs hp hW hS => ?_)
    obtain ⟨rfl, rfl⟩ := hp
    have hW : gW g A ad np u (a, x, o) H := hW
    refine lv_if_eq (tgt := 23) hx hb d_Mod_move_12 (by decide) (fun h12 => ?_) (fun h12 => ?_)
    · -- 12 t
      have h12 : (sIs a w1) = false := bI_0 h12
      refine lv_iconst (v := 0) hx hb d_Mod_move_23 (by decide) ?_
      refine hret 0 (u, (a, x, o)) _ _ _ _ ?_ hW hS d_Mod_move_24
      first
        | (have e9 : pM a w1 w2 = false := by unfold pM; rw [decide_eq_false h4]; rfl
           exact ⟨by unfold sM; rw [if_neg (by rw [e9]; decide)], by rw [e9]; rfl⟩)
        | (have e9 : pM a w1 w2 = false := by unfold pM; rw [h12]; simp; done
           exact ⟨by unfold sM; rw [if_neg (by rw [e9]; decide)], by rw [e9]; rfl⟩)
        | (have e9 : pM a (nI P) w2 = false := by unfold pM; rw [h20]; simp; done
           exact ⟨by unfold sM; rw [if_neg (by rw [e9]; decide)], by rw [e9]; rfl⟩)
    · -- 12 f
      have h12 : (sIs a w1) = true := bI_n0 h12
      have h12a := h12
      obtain ⟨P, hP, rfl⟩ := sIs_of hpc hnp h12
      refine lv_aload_n hx hb d_Mod_move_15 rfl (lv_at hl 0 rfl) ?_
      refine lv_iload_n hx hb d_Mod_move_16 rfl (lv_at hl 2 rfl) ?_
      refine gc_iV (As := [.int w2]) (b := ad 74) (rest := []) X cw_Mod_78 (C_Mod_isPage l (u := u) (a := a) (x := x) (o := o) (w := w2)) hW hS (gW_recv (ci := 7) (fs := gf7 ad) hK hW (by omega) (fun σ τ => ge_7 rfl σ τ) (r := (R_Mod, F_Mod, 37)) rfl) ⟨Nat.le_trans (Nat.le_of_ble_eq_true rfl) hR.1, Nat.le_trans (Nat.le_of_ble_eq_true rfl) hR.2⟩ rfl hl.1 rfl (Nat.le_of_ble_eq_true rfl) d_Mod_move_17 ⟨Nat.zero_le _, Nat.zero_le _⟩ (fun r t H locs hp hW hS => ?_)
      obtain ⟨rfl, rfl⟩ := hp
      have hW : gW g A ad np u (a, x, o) H := hW
      refine lv_if_ne (tgt := 25) hx hb d_Mod_move_20 (by decide) (fun h20 => ?_) (fun h20 => ?_)
      · -- 20 t
        have h20 : (sIs a w2) = true := bI_n0 h20
        refine lv_aload_n hx hb d_Mod_move_25 rfl (lv_at hl 0 rfl) ?_
        refine gf_Mod_16 X hW  d_Mod_move_26 ?_
        refine lv_iload_n hx hb d_Mod_move_29 rfl (lv_at hl 1 rfl) ?_
        refine lv_iload_n hx hb d_Mod_move_30 rfl (lv_at hl 2 rfl) ?_
        refine gy_is (z := w2) (q := (2, 3, P)) hx hb hK hW hS (by omega) rfl (show vp_in _ 32 from vp_in_nI (by omega) (by decide)) (gv_2_3 (by omega)) ((gi_2_3 _).trans (by rw [nI_clamp (by omega)])) d_Mod_move_31 (fun H locs hW hS => ?_)
        have hW : gW g A ad np u (gu a 3 P w2, x, o) H := hW
        refine lv_iconst (v := 1) hx hb d_Mod_move_32 (by decide) ?_
        refine hret 1 (u, (gu a 3 P w2, x, o)) _ _ _ _ ?_ hW hS d_Mod_move_33
        have e9 : pM a (nI P) w2 = true := by unfold pM; rw [decide_eq_true h4, h12a, h20]; rfl
        exact ⟨by unfold sM; rw [if_pos e9, nI_clamp (by omega)], by rw [e9]; rfl⟩
      · -- 20 f
        have h20 : (sIs a w2) = false := bI_0 h20
        refine lv_iconst (v := 0) hx hb d_Mod_move_23 (by decide) ?_
        refine hret 0 (u, (a, x, o)) _ _ _ _ ?_ hW hS d_Mod_move_24
        first
          | (have e9 : pM a w1 w2 = false := by unfold pM; rw [decide_eq_false h4]; rfl
             exact ⟨by unfold sM; rw [if_neg (by rw [e9]; decide)], by rw [e9]; rfl⟩)
          | (have e9 : pM a w1 w2 = false := by unfold pM; rw [h12]; simp; done
             exact ⟨by unfold sM; rw [if_neg (by rw [e9]; decide)], by rw [e9]; rfl⟩)
          | (have e9 : pM a (nI P) w2 = false := by unfold pM; rw [h20]; simp; done
             exact ⟨by unfold sM; rw [if_neg (by rw [e9]; decide)], by rw [e9]; rfl⟩)
theorem C_Mod_move (l : Launch) {g : gG} {A : Nat → Prop} {ad : Nat → Nat} {np : Nat} {u : gS} {a x : gA} {o : gL} {nm : Nat} {w1 w2 : Int32} (hw : WFw nm a) : CtI l y_Mod_move b_Mod_move 3 .boolean 1 [.ref (ad 74), .int w1, .int w2] g A ad np u (a, x, o) (fun r t => t = (u, (sM a w1 w2, x, o)) ∧ r = bI (pM a w1 w2)) := mkI (by decide) rfl (Nat.le_of_ble_eq_true rfl) (fun r t h => h.2 ▸ bI_nar _) (B_Mod_move l hw)

set_option maxHeartbeats 400000 in
set_option maxRecDepth 20000 in
theorem B_Mod_drop (l : Launch) {g : gG} {A : Nat → Prop} {ad : Nat → Nat} {np : Nat} {u : gS} {a x : gA} {o : gL} {nm : Nat} {w1 : Int32} (hw : WFw nm a) : BdI l b_Mod_drop 2 R_Mod 1 [.ref (ad 74), .int w1] g A ad np u (a, x, o) (fun r t => t = (u, (sD a w1, x, o)) ∧ r = bI (pD a w1)) := by
  intro p e R s m args below meth c Q ls X hW hS hR hl hret
  have hx := X.1.1
  have hb := X.1.2.1
  have hml := X.1.2.2.1
  have hown := X.1.2.2.2.1
  have hts := X.1.2.2.2.2
  have hK := X.2.1
  have hl : lv_has ls 2 [(0, .ref (ad 74)), (1, .int w1)] := hl
  have hnp := hw.1
  have hpc := hw.2.1
  refine lv_aload_n hx hb d_Mod_drop_0 rfl (lv_at hl 0 rfl) ?_
  refine gf_Mod_73 (z := a 0 13) X hW  (gv_2_0_13 _) rfl rfl d_Mod_drop_1 ?_
  refine lv_if_ne (tgt := 15) hx hb d_Mod_drop_4 (by decide) (fun h4 => ?_) (fun h4 => ?_)
  · -- 4 t
    refine lv_iconst (v := 0) hx hb d_Mod_drop_15 (by decide) ?_
    refine hret 0 (u, (a, x, o)) _ _ _ _ ?_ hW hS d_Mod_drop_16
    first
      | (have e9 : pD a w1 = false := by unfold pD; rw [decide_eq_false h4]; rfl
         exact ⟨by unfold sD; rw [if_neg (by rw [e9]; decide)], by rw [e9]; rfl⟩)
      | (have e9 : pD a w1 = false := by unfold pD; rw [h12]; simp; done
         exact ⟨by unfold sD; rw [if_neg (by rw [e9]; decide)], by rw [e9]; rfl⟩)
  · -- 4 f
    refine lv_aload_n hx hb d_Mod_drop_7 rfl (lv_at hl 0 rfl) ?_
    refine lv_iload_n hx hb d_Mod_drop_8 rfl (lv_at hl 1 rfl) ?_
    refine gc_iV (As := [.int w1]) (b := ad 74) (rest := []) X cw_Mod_78 (C_Mod_isPage l (u := u) (a := a) (x := x) (o := o) (w := w1)) hW hS (gW_recv (ci := 7) (fs := gf7 ad) hK hW (by omega) (fun σ τ => ge_7 rfl σ τ) (r := (R_Mod, F_Mod, 37)) rfl) ⟨Nat.le_trans (Nat.le_of_ble_eq_true rfl) hR.1, Nat.le_trans (Nat.le_of_ble_eq_true rfl) hR.2⟩ rfl hl.1 rfl (Nat.le_of_ble_eq_true rfl) d_Mod_drop_9 ⟨Nat.zero_le _, Nat.zero_le _⟩ (fun r t H locs hp hW hS => ?_)
    obtain ⟨rfl, rfl⟩ := hp
    have hW : gW g A ad np u (a, x, o) H := hW
    refine lv_if_ne (tgt := 17) hx hb d_Mod_drop_12 (by decide) (fun h12 => ?_) (fun h12 => ?_)
    · -- 12 t
      have h12 : (sIs a w1) = true := bI_n0 h12
      have h12a := h12
      obtain ⟨P, hP, rfl⟩ := sIs_of hpc hnp h12
      refine lv_aload_n hx hb d_Mod_drop_17 rfl (lv_at hl 0 rfl) ?_
      refine gf_Mod_16 X hW  d_Mod_drop_18 ?_
      refine lv_iload_n hx hb d_Mod_drop_21 rfl (lv_at hl 1 rfl) ?_
      refine lv_bipush (v := (-3)) hx hb d_Mod_drop_22 (by decide) ?_
      refine gy_is (z := (-3)) (q := (2, 3, P)) hx hb hK hW hS (by omega) rfl (show vp_in _ 32 from vp_in_nI (by omega) (by decide)) (gv_2_3 (by omega)) ((gi_2_3 _).trans (by rw [nI_clamp (by omega)])) d_Mod_drop_24 (fun H locs hW hS => ?_)
      have hW : gW g A ad np u (gu a 3 P (-3), x, o) H := hW
      refine lv_iconst (v := 1) hx hb d_Mod_drop_25 (by decide) ?_
      refine hret 1 (u, (gu a 3 P (-3), x, o)) _ _ _ _ ?_ hW hS d_Mod_drop_26
      have e9 : pD a (nI P) = true := by unfold pD; rw [decide_eq_true h4, h12a]; rfl
      exact ⟨by unfold sD; rw [if_pos e9, nI_clamp (by omega)], by rw [e9]; rfl⟩
    · -- 12 f
      have h12 : (sIs a w1) = false := bI_0 h12
      refine lv_iconst (v := 0) hx hb d_Mod_drop_15 (by decide) ?_
      refine hret 0 (u, (a, x, o)) _ _ _ _ ?_ hW hS d_Mod_drop_16
      first
        | (have e9 : pD a w1 = false := by unfold pD; rw [decide_eq_false h4]; rfl
           exact ⟨by unfold sD; rw [if_neg (by rw [e9]; decide)], by rw [e9]; rfl⟩)
        | (have e9 : pD a w1 = false := by unfold pD; rw [h12]; simp; done
           exact ⟨by unfold sD; rw [if_neg (by rw [e9]; decide)], by rw [e9]; rfl⟩)
theorem C_Mod_drop (l : Launch) {g : gG} {A : Nat → Prop} {ad : Nat → Nat} {np : Nat} {u : gS} {a x : gA} {o : gL} {nm : Nat} {w1 : Int32} (hw : WFw nm a) : CtI l y_Mod_drop b_Mod_drop 2 .boolean 1 [.ref (ad 74), .int w1] g A ad np u (a, x, o) (fun r t => t = (u, (sD a w1, x, o)) ∧ r = bI (pD a w1)) := mkI (by decide) rfl (Nat.le_of_ble_eq_true rfl) (fun r t h => h.2 ▸ bI_nar _) (B_Mod_drop l hw)

set_option maxHeartbeats 400000 in
set_option maxRecDepth 20000 in
theorem B_Mod_rule (l : Launch) {g : gG} {A : Nat → Prop} {ad : Nat → Nat} {np : Nat} {u : gS} {a x : gA} {o : gL} {nm : Nat} {w1 w2 : Int32} {b : Bool} (hw : WFw nm a) : BdI l b_Mod_rule 4 R_Mod 0 [.ref (ad 74), .int w1, .int w2, .int (bI b)] g A ad np u (a, x, o) (fun r t => t = (u, (sR a w1 w2 (bI b), x, o)) ∧ r = bI (pR a w1 w2)) := by
  intro p e R s m args below meth c Q ls X hW hS hR hl hret
  have hx := X.1.1
  have hb := X.1.2.1
  have hml := X.1.2.2.1
  have hown := X.1.2.2.2.1
  have hts := X.1.2.2.2.2
  have hK := X.2.1
  have hl : lv_has ls 4 [(0, .ref (ad 74)), (1, .int w1), (2, .int w2), (3, .int (bI b))] := hl
  have hnp := hw.1
  have hpc := hw.2.1
  refine lv_aload_n hx hb d_Mod_rule_0 rfl (lv_at hl 0 rfl) ?_
  refine gf_Mod_73 (z := a 0 13) X hW  (gv_2_0_13 _) rfl rfl d_Mod_rule_1 ?_
  refine lv_if_ne (tgt := 36) hx hb d_Mod_rule_4 (by decide) (fun h4 => ?_) (fun h4 => ?_)
  · -- 4 t
    refine lv_iconst (v := 0) hx hb d_Mod_rule_36 (by decide) ?_
    refine hret 0 (u, (a, x, o)) _ _ _ _ ?_ hW hS d_Mod_rule_37
    first
      | (have e9 : pR a w1 w2 = false := by unfold pR; rw [decide_eq_false h4]; rfl
         exact ⟨by unfold sR; rw [if_neg (by rw [e9]; decide)], by rw [e9]; rfl⟩)
      | (have e9 : pR a w1 w2 = false := by unfold pR; rw [sIn_f1 h8]; simp; done
         exact ⟨by unfold sR; rw [if_neg (by rw [e9]; decide)], by rw [e9]; rfl⟩)
      | (have e9 : pR a w1 w2 = false := by unfold pR; rw [sIn_f2 h13]; simp; done
         exact ⟨by unfold sR; rw [if_neg (by rw [e9]; decide)], by rw [e9]; rfl⟩)
      | (have e9 : pR a (nI hh) w2 = false := by unfold pR; rw [sIn_f1 h17]; simp; done
         exact ⟨by unfold sR; rw [if_neg (by rw [e9]; decide)], by rw [e9]; rfl⟩)
      | (have e9 : pR a (nI hh) w2 = false := by unfold pR; rw [sIn_f2 h23]; simp; done
         exact ⟨by unfold sR; rw [if_neg (by rw [e9]; decide)], by rw [e9]; rfl⟩)
      | (have e9 : pR a (nI hh) w2 = false := by unfold pR; rw [ewc, decide_eq_false (p := wc < 4) (by omega)]; simp; done
         exact ⟨by unfold sR; rw [if_neg (by rw [e9]; decide)], by rw [e9]; rfl⟩)
  · -- 4 f
    refine lv_iload_n hx hb d_Mod_rule_7 rfl (lv_at hl 1 rfl) ?_
    refine lv_if_lt (tgt := 36) hx hb d_Mod_rule_8 (by decide) (fun h8 => ?_) (fun h8 => ?_)
    · -- 8 t
      refine lv_iconst (v := 0) hx hb d_Mod_rule_36 (by decide) ?_
      refine hret 0 (u, (a, x, o)) _ _ _ _ ?_ hW hS d_Mod_rule_37
      first
        | (have e9 : pR a w1 w2 = false := by unfold pR; rw [decide_eq_false h4]; rfl
           exact ⟨by unfold sR; rw [if_neg (by rw [e9]; decide)], by rw [e9]; rfl⟩)
        | (have e9 : pR a w1 w2 = false := by unfold pR; rw [sIn_f1 h8]; simp; done
           exact ⟨by unfold sR; rw [if_neg (by rw [e9]; decide)], by rw [e9]; rfl⟩)
        | (have e9 : pR a w1 w2 = false := by unfold pR; rw [sIn_f2 h13]; simp; done
           exact ⟨by unfold sR; rw [if_neg (by rw [e9]; decide)], by rw [e9]; rfl⟩)
        | (have e9 : pR a (nI hh) w2 = false := by unfold pR; rw [sIn_f1 h17]; simp; done
           exact ⟨by unfold sR; rw [if_neg (by rw [e9]; decide)], by rw [e9]; rfl⟩)
        | (have e9 : pR a (nI hh) w2 = false := by unfold pR; rw [sIn_f2 h23]; simp; done
           exact ⟨by unfold sR; rw [if_neg (by rw [e9]; decide)], by rw [e9]; rfl⟩)
        | (have e9 : pR a (nI hh) w2 = false := by unfold pR; rw [ewc, decide_eq_false (p := wc < 4) (by omega)]; simp; done
           exact ⟨by unfold sR; rw [if_neg (by rw [e9]; decide)], by rw [e9]; rfl⟩)
    · -- 8 f
      refine lv_iload_n hx hb d_Mod_rule_11 rfl (lv_at hl 1 rfl) ?_
      refine lv_iconst (v := 5) hx hb d_Mod_rule_12 (by decide) ?_
      refine lv_icmp_gt (tgt := 36) hx hb d_Mod_rule_13 (by decide) (fun h13 => ?_) (fun h13 => ?_)
      · -- 13 t
        refine lv_iconst (v := 0) hx hb d_Mod_rule_36 (by decide) ?_
        refine hret 0 (u, (a, x, o)) _ _ _ _ ?_ hW hS d_Mod_rule_37
        first
          | (have e9 : pR a w1 w2 = false := by unfold pR; rw [decide_eq_false h4]; rfl
             exact ⟨by unfold sR; rw [if_neg (by rw [e9]; decide)], by rw [e9]; rfl⟩)
          | (have e9 : pR a w1 w2 = false := by unfold pR; rw [sIn_f1 h8]; simp; done
             exact ⟨by unfold sR; rw [if_neg (by rw [e9]; decide)], by rw [e9]; rfl⟩)
          | (have e9 : pR a w1 w2 = false := by unfold pR; rw [sIn_f2 h13]; simp; done
             exact ⟨by unfold sR; rw [if_neg (by rw [e9]; decide)], by rw [e9]; rfl⟩)
          | (have e9 : pR a (nI hh) w2 = false := by unfold pR; rw [sIn_f1 h17]; simp; done
             exact ⟨by unfold sR; rw [if_neg (by rw [e9]; decide)], by rw [e9]; rfl⟩)
          | (have e9 : pR a (nI hh) w2 = false := by unfold pR; rw [sIn_f2 h23]; simp; done
             exact ⟨by unfold sR; rw [if_neg (by rw [e9]; decide)], by rw [e9]; rfl⟩)
          | (have e9 : pR a (nI hh) w2 = false := by unfold pR; rw [ewc, decide_eq_false (p := wc < 4) (by omega)]; simp; done
             exact ⟨by unfold sR; rw [if_neg (by rw [e9]; decide)], by rw [e9]; rfl⟩)
      · -- 13 f
        have hsn : sIn w1 0 5 = true := sIn_t h8 h13
        obtain ⟨hh, -, hh5, rfl⟩ := sIn_of (lo := 0) (hi := 5) (by decide) (by decide) hsn
        obtain ⟨wc, hwc8, hwc, -⟩ := hw.2.2.2.1 hh (by omega)
        have ewc : (a 10 (nI hh).toNatClampNeg).toNatClampNeg = wc := by rw [nI_clamp (by omega), hwc, nI_clamp (by omega)]
        refine lv_iload_n hx hb d_Mod_rule_16 rfl (lv_at hl 2 rfl) ?_
        refine lv_if_lt (tgt := 36) hx hb d_Mod_rule_17 (by decide) (fun h17 => ?_) (fun h17 => ?_)
        · -- 17 t
          refine lv_iconst (v := 0) hx hb d_Mod_rule_36 (by decide) ?_
          refine hret 0 (u, (a, x, o)) _ _ _ _ ?_ hW hS d_Mod_rule_37
          first
            | (have e9 : pR a w1 w2 = false := by unfold pR; rw [decide_eq_false h4]; rfl
               exact ⟨by unfold sR; rw [if_neg (by rw [e9]; decide)], by rw [e9]; rfl⟩)
            | (have e9 : pR a w1 w2 = false := by unfold pR; rw [sIn_f1 h8]; simp; done
               exact ⟨by unfold sR; rw [if_neg (by rw [e9]; decide)], by rw [e9]; rfl⟩)
            | (have e9 : pR a w1 w2 = false := by unfold pR; rw [sIn_f2 h13]; simp; done
               exact ⟨by unfold sR; rw [if_neg (by rw [e9]; decide)], by rw [e9]; rfl⟩)
            | (have e9 : pR a (nI hh) w2 = false := by unfold pR; rw [sIn_f1 h17]; simp; done
               exact ⟨by unfold sR; rw [if_neg (by rw [e9]; decide)], by rw [e9]; rfl⟩)
            | (have e9 : pR a (nI hh) w2 = false := by unfold pR; rw [sIn_f2 h23]; simp; done
               exact ⟨by unfold sR; rw [if_neg (by rw [e9]; decide)], by rw [e9]; rfl⟩)
            | (have e9 : pR a (nI hh) w2 = false := by unfold pR; rw [ewc, decide_eq_false (p := wc < 4) (by omega)]; simp; done
               exact ⟨by unfold sR; rw [if_neg (by rw [e9]; decide)], by rw [e9]; rfl⟩)
        · -- 17 f
          refine lv_iload_n hx hb d_Mod_rule_20 rfl (lv_at hl 2 rfl) ?_
          refine lv_ldc (v := 999999) hx hb hown (hts _ w_Mod_const_77) d_Mod_rule_21 ?_
          refine lv_icmp_gt (tgt := 36) hx hb d_Mod_rule_23 (by decide) (fun h23 => ?_) (fun h23 => ?_)
          · -- 23 t
            refine lv_iconst (v := 0) hx hb d_Mod_rule_36 (by decide) ?_
            refine hret 0 (u, (a, x, o)) _ _ _ _ ?_ hW hS d_Mod_rule_37
            first
              | (have e9 : pR a w1 w2 = false := by unfold pR; rw [decide_eq_false h4]; rfl
                 exact ⟨by unfold sR; rw [if_neg (by rw [e9]; decide)], by rw [e9]; rfl⟩)
              | (have e9 : pR a w1 w2 = false := by unfold pR; rw [sIn_f1 h8]; simp; done
                 exact ⟨by unfold sR; rw [if_neg (by rw [e9]; decide)], by rw [e9]; rfl⟩)
              | (have e9 : pR a w1 w2 = false := by unfold pR; rw [sIn_f2 h13]; simp; done
                 exact ⟨by unfold sR; rw [if_neg (by rw [e9]; decide)], by rw [e9]; rfl⟩)
              | (have e9 : pR a (nI hh) w2 = false := by unfold pR; rw [sIn_f1 h17]; simp; done
                 exact ⟨by unfold sR; rw [if_neg (by rw [e9]; decide)], by rw [e9]; rfl⟩)
              | (have e9 : pR a (nI hh) w2 = false := by unfold pR; rw [sIn_f2 h23]; simp; done
                 exact ⟨by unfold sR; rw [if_neg (by rw [e9]; decide)], by rw [e9]; rfl⟩)
              | (have e9 : pR a (nI hh) w2 = false := by unfold pR; rw [ewc, decide_eq_false (p := wc < 4) (by omega)]; simp; done
                 exact ⟨by unfold sR; rw [if_neg (by rw [e9]; decide)], by rw [e9]; rfl⟩)
          · -- 23 f
            refine lv_aload_n hx hb d_Mod_rule_26 rfl (lv_at hl 0 rfl) ?_
            refine gf_Mod_38 X hW  d_Mod_rule_27 ?_
            refine lv_iload_n hx hb d_Mod_rule_30 rfl (lv_at hl 1 rfl) ?_
            refine gy_ia (z := nI wc) (q := (2, 10, hh)) hx hb hK hW (by omega) rfl (show vp_in _ 6 from vp_in_nI (by omega) (by decide)) (gv_2_10 (by omega)) ((gi_2_10 _).trans (by rw [nI_clamp (by omega)])) hwc d_Mod_rule_31 ?_
            refine lv_iconst (v := 4) hx hb d_Mod_rule_32 (by decide) ?_
            refine lv_icmp_lt (tgt := 38) hx hb d_Mod_rule_33 (by decide) (fun h33 => ?_) (fun h33 => ?_)
            · -- 33 t
              have h33 : wc < 4 := (nI_ltI (a := wc) (b := 4) (by omega) (by omega)).mp h33
              refine lv_aload_n hx hb d_Mod_rule_38 rfl (lv_at hl 0 rfl) ?_
              refine gf_Mod_31 X hW  d_Mod_rule_39 ?_
              refine lv_iconst (v := 4) hx hb d_Mod_rule_42 (by decide) ?_
              refine lv_iload_n hx hb d_Mod_rule_43 rfl (lv_at hl 1 rfl) ?_
              refine lv_imul hx hb d_Mod_rule_44 ?_
              rw [show 4 * (nI hh) = nI (4 * hh) from pk_mul 4 hh]
              refine lv_aload_n hx hb d_Mod_rule_45 rfl (lv_at hl 0 rfl) ?_
              refine gf_Mod_38 X hW  d_Mod_rule_46 ?_
              refine lv_iload_n hx hb d_Mod_rule_49 rfl (lv_at hl 1 rfl) ?_
              refine gy_ia (z := nI wc) (q := (2, 10, hh)) hx hb hK hW (by omega) rfl (show vp_in _ 6 from vp_in_nI (by omega) (by decide)) (gv_2_10 (by omega)) ((gi_2_10 _).trans (by rw [nI_clamp (by omega)])) hwc d_Mod_rule_50 ?_
              refine lv_iadd hx hb d_Mod_rule_51 ?_
              rw [show (nI (4 * hh)) + (nI wc) = nI (4 * hh + wc) from nI_add _ _]
              refine lv_iload_n hx hb d_Mod_rule_52 rfl (lv_at hl 2 rfl) ?_
              refine gy_is (z := w2) (q := (2, 8, (4 * hh + wc))) hx hb hK hW hS (by omega) rfl (show vp_in _ 24 from vp_in_nI (by omega) (by decide)) (gv_2_8 (by omega)) ((gi_2_8 _).trans (by rw [nI_clamp (by omega)])) d_Mod_rule_53 (fun H locs hW hS => ?_)
              have hW : gW g A ad np u (gu a 8 (4 * hh + wc) w2, x, o) H := hW
              refine lv_aload_n hx hb d_Mod_rule_54 rfl (lv_at hl 0 rfl) ?_
              refine gf_Mod_34 X hW  d_Mod_rule_55 ?_
              refine lv_iconst (v := 4) hx hb d_Mod_rule_58 (by decide) ?_
              refine lv_iload_n hx hb d_Mod_rule_59 rfl (lv_at hl 1 rfl) ?_
              refine lv_imul hx hb d_Mod_rule_60 ?_
              rw [show 4 * (nI hh) = nI (4 * hh) from pk_mul 4 hh]
              refine lv_aload_n hx hb d_Mod_rule_61 rfl (lv_at hl 0 rfl) ?_
              refine gf_Mod_38 X hW  d_Mod_rule_62 ?_
              refine lv_iload_n hx hb d_Mod_rule_65 rfl (lv_at hl 1 rfl) ?_
              refine gy_ia (z := nI wc) (q := (2, 10, hh)) hx hb hK hW (by omega) rfl (show vp_in _ 6 from vp_in_nI (by omega) (by decide)) (gv_2_10 (by omega)) ((gi_2_10 _).trans (by rw [nI_clamp (by omega)])) hwc d_Mod_rule_66 ?_
              refine lv_iadd hx hb d_Mod_rule_67 ?_
              rw [show (nI (4 * hh)) + (nI wc) = nI (4 * hh + wc) from nI_add _ _]
              refine lv_iload_n hx hb d_Mod_rule_68 rfl (lv_at hl 3 rfl) ?_
              refine gy_zs (z := bI b) (q := (2, 9, (4 * hh + wc))) hx hb hK hW hS (by omega) rfl (show vp_in _ 24 from vp_in_nI (by omega) (by decide)) (bI_narz b) (gv_2_9 (by omega)) ((gi_2_9 _).trans (by rw [nI_clamp (by omega)])) d_Mod_rule_69 (fun H locs hW hS => ?_)
              have hW : gW g A ad np u (gu (gu a 8 (4 * hh + wc) w2) 9 (4 * hh + wc) (bI b), x, o) H := hW
              refine lv_aload_n hx hb d_Mod_rule_70 rfl (lv_at hl 0 rfl) ?_
              refine gf_Mod_38 X hW  d_Mod_rule_71 ?_
              refine lv_iload_n hx hb d_Mod_rule_74 rfl (lv_at hl 1 rfl) ?_
              refine lv_aload_n hx hb d_Mod_rule_75 rfl (lv_at hl 0 rfl) ?_
              refine gf_Mod_38 X hW  d_Mod_rule_76 ?_
              refine lv_iload_n hx hb d_Mod_rule_79 rfl (lv_at hl 1 rfl) ?_
              refine gy_ia (z := nI wc) (q := (2, 10, hh)) hx hb hK hW (by omega) rfl (show vp_in _ 6 from vp_in_nI (by omega) (by decide)) (gv_2_10 (by omega)) ((gi_2_10 _).trans (by rw [nI_clamp (by omega)])) hwc d_Mod_rule_80 ?_
              refine lv_iconst (v := 1) hx hb d_Mod_rule_81 (by decide) ?_
              refine lv_iadd hx hb d_Mod_rule_82 ?_
              rw [show (nI wc) + 1 = nI (wc + 1) from nI_1 wc]
              refine gy_is (z := nI (wc + 1)) (q := (2, 10, hh)) hx hb hK hW hS (by omega) rfl (show vp_in _ 6 from vp_in_nI (by omega) (by decide)) (gv_2_10 (by omega)) ((gi_2_10 _).trans (by rw [nI_clamp (by omega)])) d_Mod_rule_83 (fun H locs hW hS => ?_)
              have hW : gW g A ad np u (gu (gu (gu a 8 (4 * hh + wc) w2) 9 (4 * hh + wc) (bI b)) 10 hh (nI (wc + 1)), x, o) H := hW
              refine lv_iconst (v := 1) hx hb d_Mod_rule_84 (by decide) ?_
              refine hret 1 (u, (gu (gu (gu a 8 (4 * hh + wc) w2) 9 (4 * hh + wc) (bI b)) 10 hh (nI (wc + 1)), x, o)) _ _ _ _ ?_ hW hS d_Mod_rule_85
              have e9 : pR a (nI hh) w2 = true := by unfold pR; rw [decide_eq_true h4, hsn, sIn_t h17 h23, ewc, decide_eq_true h33]; rfl
              exact ⟨by unfold sR; rw [if_pos e9, ewc, nI_clamp (by omega)], by rw [e9]; rfl⟩
            · -- 33 f
              have h33 : 4 ≤ wc := Nat.le_of_not_lt fun q => h33 ((nI_ltI (a := wc) (b := 4) (by omega) (by omega)).mpr q)
              refine lv_iconst (v := 0) hx hb d_Mod_rule_36 (by decide) ?_
              refine hret 0 (u, (a, x, o)) _ _ _ _ ?_ hW hS d_Mod_rule_37
              first
                | (have e9 : pR a w1 w2 = false := by unfold pR; rw [decide_eq_false h4]; rfl
                   exact ⟨by unfold sR; rw [if_neg (by rw [e9]; decide)], by rw [e9]; rfl⟩)
                | (have e9 : pR a w1 w2 = false := by unfold pR; rw [sIn_f1 h8]; simp; done
                   exact ⟨by unfold sR; rw [if_neg (by rw [e9]; decide)], by rw [e9]; rfl⟩)
                | (have e9 : pR a w1 w2 = false := by unfold pR; rw [sIn_f2 h13]; simp; done
                   exact ⟨by unfold sR; rw [if_neg (by rw [e9]; decide)], by rw [e9]; rfl⟩)
                | (have e9 : pR a (nI hh) w2 = false := by unfold pR; rw [sIn_f1 h17]; simp; done
                   exact ⟨by unfold sR; rw [if_neg (by rw [e9]; decide)], by rw [e9]; rfl⟩)
                | (have e9 : pR a (nI hh) w2 = false := by unfold pR; rw [sIn_f2 h23]; simp; done
                   exact ⟨by unfold sR; rw [if_neg (by rw [e9]; decide)], by rw [e9]; rfl⟩)
                | (have e9 : pR a (nI hh) w2 = false := by unfold pR; rw [ewc, decide_eq_false (p := wc < 4) (by omega)]; simp; done
                   exact ⟨by unfold sR; rw [if_neg (by rw [e9]; decide)], by rw [e9]; rfl⟩)
theorem C_Mod_rule (l : Launch) {g : gG} {A : Nat → Prop} {ad : Nat → Nat} {np : Nat} {u : gS} {a x : gA} {o : gL} {nm : Nat} {w1 w2 : Int32} {b : Bool} (hw : WFw nm a) : CtI l y_Mod_rule b_Mod_rule 4 .boolean 0 [.ref (ad 74), .int w1, .int w2, .int (bI b)] g A ad np u (a, x, o) (fun r t => t = (u, (sR a w1 w2 (bI b), x, o)) ∧ r = bI (pR a w1 w2)) := mkI (by decide) rfl (Nat.le_of_ble_eq_true rfl) (fun r t h => h.2 ▸ bI_nar _) (B_Mod_rule l hw)

set_option maxHeartbeats 400000 in
set_option maxRecDepth 20000 in
theorem B_Mod_first (l : Launch) {g : gG} {A : Nat → Prop} {ad : Nat → Nat} {np : Nat} {u : gS} {a x : gA} {o : gL} {nm : Nat} {w1 : Int32} (hw : WFw nm a) : BdI l b_Mod_first 2 R_Mod 1 [.ref (ad 74), .int w1] g A ad np u (a, x, o) (fun r t => t = (u, (sF a w1, x, o)) ∧ r = bI (pF a w1)) := by
  intro p e R s m args below meth c Q ls X hW hS hR hl hret
  have hx := X.1.1
  have hb := X.1.2.1
  have hml := X.1.2.2.1
  have hown := X.1.2.2.2.1
  have hts := X.1.2.2.2.2
  have hK := X.2.1
  have hl : lv_has ls 2 [(0, .ref (ad 74)), (1, .int w1)] := hl
  have hnp := hw.1
  have hpc := hw.2.1
  obtain ⟨kf, hkf6, e12, hkf⟩ := hw.2.2.2.2.2.2.2.1
  have ecn : cn a 12 = kf := cn_of e12 (by omega)
  refine lv_aload_n hx hb d_Mod_first_0 rfl (lv_at hl 0 rfl) ?_
  refine gf_Mod_73 (z := a 0 13) X hW  (gv_2_0_13 _) rfl rfl d_Mod_first_1 ?_
  refine lv_if_ne (tgt := 24) hx hb d_Mod_first_4 (by decide) (fun h4 => ?_) (fun h4 => ?_)
  · -- 4 t
    refine lv_iconst (v := 0) hx hb d_Mod_first_24 (by decide) ?_
    refine hret 0 (u, (a, x, o)) _ _ _ _ ?_ hW hS d_Mod_first_25
    first
      | (have e9 : pF a w1 = false := by unfold pF; rw [decide_eq_false h4]; rfl
         exact ⟨by unfold sF; rw [if_neg (by rw [e9]; decide)], by rw [e9]; rfl⟩)
      | (have e9 : pF a w1 = false := by unfold pF; rw [h12]; simp; done
         exact ⟨by unfold sF; rw [if_neg (by rw [e9]; decide)], by rw [e9]; rfl⟩)
      | (have e9 : pF a w1 = false := by unfold pF; rw [ecn, decide_eq_false (p := kf < 6) (by omega)]; simp; done
         exact ⟨by unfold sF; rw [if_neg (by rw [e9]; decide)], by rw [e9]; rfl⟩)
  · -- 4 f
    refine lv_aload_n hx hb d_Mod_first_7 rfl (lv_at hl 0 rfl) ?_
    refine lv_iload_n hx hb d_Mod_first_8 rfl (lv_at hl 1 rfl) ?_
    refine gc_iV (As := [.int w1]) (b := ad 74) (rest := []) X cw_Mod_78 (C_Mod_isPage l (u := u) (a := a) (x := x) (o := o) (w := w1)) hW hS (gW_recv (ci := 7) (fs := gf7 ad) hK hW (by omega) (fun σ τ => ge_7 rfl σ τ) (r := (R_Mod, F_Mod, 37)) rfl) ⟨Nat.le_trans (Nat.le_of_ble_eq_true rfl) hR.1, Nat.le_trans (Nat.le_of_ble_eq_true rfl) hR.2⟩ rfl hl.1 rfl (Nat.le_of_ble_eq_true rfl) d_Mod_first_9 ⟨Nat.zero_le _, Nat.zero_le _⟩ (fun r t H locs hp hW hS => ?_)
    obtain ⟨rfl, rfl⟩ := hp
    have hW : gW g A ad np u (a, x, o) H := hW
    refine lv_if_eq (tgt := 24) hx hb d_Mod_first_12 (by decide) (fun h12 => ?_) (fun h12 => ?_)
    · -- 12 t
      have h12 : (sIs a w1) = false := bI_0 h12
      refine lv_iconst (v := 0) hx hb d_Mod_first_24 (by decide) ?_
      refine hret 0 (u, (a, x, o)) _ _ _ _ ?_ hW hS d_Mod_first_25
      first
        | (have e9 : pF a w1 = false := by unfold pF; rw [decide_eq_false h4]; rfl
           exact ⟨by unfold sF; rw [if_neg (by rw [e9]; decide)], by rw [e9]; rfl⟩)
        | (have e9 : pF a w1 = false := by unfold pF; rw [h12]; simp; done
           exact ⟨by unfold sF; rw [if_neg (by rw [e9]; decide)], by rw [e9]; rfl⟩)
        | (have e9 : pF a w1 = false := by unfold pF; rw [ecn, decide_eq_false (p := kf < 6) (by omega)]; simp; done
           exact ⟨by unfold sF; rw [if_neg (by rw [e9]; decide)], by rw [e9]; rfl⟩)
    · -- 12 f
      have h12 : (sIs a w1) = true := bI_n0 h12
      refine lv_aload_n hx hb d_Mod_first_15 rfl (lv_at hl 0 rfl) ?_
      refine gf_Mod_82 (z := nI kf) X hW  (gv_2_0_12 _) rfl e12 d_Mod_first_16 ?_
      refine lv_bipush (v := 6) hx hb d_Mod_first_19 (by decide) ?_
      refine lv_icmp_lt (tgt := 26) hx hb d_Mod_first_21 (by decide) (fun h21 => ?_) (fun h21 => ?_)
      · -- 21 t
        have h21 : kf < 6 := (nI_ltI (a := kf) (b := 6) (by omega) (by omega)).mp h21
        refine lv_aload_n hx hb d_Mod_first_26 rfl (lv_at hl 0 rfl) ?_
        refine gf_Mod_41 X hW  d_Mod_first_27 ?_
        refine lv_aload_n hx hb d_Mod_first_30 rfl (lv_at hl 0 rfl) ?_
        refine gf_Mod_82 (z := nI kf) X hW  (gv_2_0_12 _) rfl e12 d_Mod_first_31 ?_
        refine lv_iload_n hx hb d_Mod_first_34 rfl (lv_at hl 1 rfl) ?_
        refine gy_is (z := w1) (q := (2, 11, kf)) hx hb hK hW hS (by omega) rfl (show vp_in _ 6 from vp_in_nI (by omega) (by decide)) (gv_2_11 (by omega)) ((gi_2_11 _).trans (by rw [nI_clamp (by omega)])) d_Mod_first_35 (fun H locs hW hS => ?_)
        have hW : gW g A ad np u (gu a 11 kf w1, x, o) H := hW
        refine lv_aload_n hx hb d_Mod_first_36 rfl (lv_at hl 0 rfl) ?_
        refine lv_aload_n hx hb d_Mod_first_37 rfl (lv_at hl 0 rfl) ?_
        refine gf_Mod_82 (z := nI kf) X hW  (gv_2_0_12 _) rfl e12 d_Mod_first_38 ?_
        refine lv_iconst (v := 1) hx hb d_Mod_first_41 (by decide) ?_
        refine lv_iadd hx hb d_Mod_first_42 ?_
        rw [show (nI kf) + 1 = nI (kf + 1) from nI_1 kf]
        refine pf_Mod_82 (z := nI (kf + 1)) X hW hS  (gv_2_0_12 _) rfl rfl rfl d_Mod_first_43 (fun H locs hW hS => ?_)
        have hW : gW g A ad np u (gu (gu a 11 kf w1) 0 12 (nI (kf + 1)), x, o) H := hW
        refine lv_iconst (v := 1) hx hb d_Mod_first_46 (by decide) ?_
        refine hret 1 (u, (gu (gu a 11 kf w1) 0 12 (nI (kf + 1)), x, o)) _ _ _ _ ?_ hW hS d_Mod_first_47
        have e9 : pF a w1 = true := by unfold pF; rw [decide_eq_true h4, h12, ecn, decide_eq_true h21]; rfl
        exact ⟨by unfold sF; rw [if_pos e9, ecn], by rw [e9]; rfl⟩
      · -- 21 f
        have h21 : 6 ≤ kf := Nat.le_of_not_lt fun q => h21 ((nI_ltI (a := kf) (b := 6) (by omega) (by omega)).mpr q)
        refine lv_iconst (v := 0) hx hb d_Mod_first_24 (by decide) ?_
        refine hret 0 (u, (a, x, o)) _ _ _ _ ?_ hW hS d_Mod_first_25
        first
          | (have e9 : pF a w1 = false := by unfold pF; rw [decide_eq_false h4]; rfl
             exact ⟨by unfold sF; rw [if_neg (by rw [e9]; decide)], by rw [e9]; rfl⟩)
          | (have e9 : pF a w1 = false := by unfold pF; rw [h12]; simp; done
             exact ⟨by unfold sF; rw [if_neg (by rw [e9]; decide)], by rw [e9]; rfl⟩)
          | (have e9 : pF a w1 = false := by unfold pF; rw [ecn, decide_eq_false (p := kf < 6) (by omega)]; simp; done
             exact ⟨by unfold sF; rw [if_neg (by rw [e9]; decide)], by rw [e9]; rfl⟩)
theorem C_Mod_first (l : Launch) {g : gG} {A : Nat → Prop} {ad : Nat → Nat} {np : Nat} {u : gS} {a x : gA} {o : gL} {nm : Nat} {w1 : Int32} (hw : WFw nm a) : CtI l y_Mod_first b_Mod_first 2 .boolean 1 [.ref (ad 74), .int w1] g A ad np u (a, x, o) (fun r t => t = (u, (sF a w1, x, o)) ∧ r = bI (pF a w1)) := mkI (by decide) rfl (Nat.le_of_ble_eq_true rfl) (fun r t h => h.2 ▸ bI_nar _) (B_Mod_first l hw)

set_option maxHeartbeats 400000 in
set_option maxRecDepth 20000 in
theorem B_Mod_page (l : Launch) {g : gG} {A : Nat → Prop} {ad : Nat → Nat} {np : Nat} {u : gS} {a x : gA} {o : gL} {nm : Nat} {w1 w2 : Int32} (hw : WFw nm a) : BdI l b_Mod_page 4 R_Mod 0 [.ref (ad 74), .int w1, .int w2] g A ad np u (a, x, o) (fun r t => t = (u, (sP a w1 w2, x, o)) ∧ r = rP a w1 w2) := by
  intro p e R s m args below meth c Q ls X hW hS hR hl hret
  have hx := X.1.1
  have hb := X.1.2.1
  have hml := X.1.2.2.1
  have hown := X.1.2.2.2.1
  have hts := X.1.2.2.2.2
  have hK := X.2.1
  have hl : lv_has ls 4 [(0, .ref (ad 74)), (1, .int w1), (2, .int w2)] := hl
  have hnp := hw.1
  have hpc := hw.2.1
  have ecn : cn a 0 = nm := cn_of hpc (by omega)
  refine lv_aload_n hx hb d_Mod_page_0 rfl (lv_at hl 0 rfl) ?_
  refine gf_Mod_73 (z := a 0 13) X hW  (gv_2_0_13 _) rfl rfl d_Mod_page_1 ?_
  refine lv_if_ne (tgt := 36) hx hb d_Mod_page_4 (by decide) (fun h4 => ?_) (fun h4 => ?_)
  · -- 4 t
    refine lv_iconst (v := (-1)) hx hb d_Mod_page_36 (by decide) ?_
    refine hret (-1) (u, (a, x, o)) _ _ _ _ ?_ hW hS d_Mod_page_37
    first
      | (have e9 : pP a w1 w2 = false := by unfold pP; rw [decide_eq_false h4]; rfl
         exact ⟨by unfold sP; rw [if_neg (by rw [e9]; decide)], by unfold rP; rw [if_neg (by rw [e9]; decide)]⟩)
      | (have e9 : pP a w1 w2 = false := by unfold pP; rw [sIn_f1 h8]; simp; done
         exact ⟨by unfold sP; rw [if_neg (by rw [e9]; decide)], by unfold rP; rw [if_neg (by rw [e9]; decide)]⟩)
      | (have e9 : pP a w1 w2 = false := by unfold pP; rw [sIn_f2 h13]; simp; done
         exact ⟨by unfold sP; rw [if_neg (by rw [e9]; decide)], by unfold rP; rw [if_neg (by rw [e9]; decide)]⟩)
      | (have e9 : pP a w1 w2 = false := by unfold pP; rw [sIn_f1 h18]; simp; done
         exact ⟨by unfold sP; rw [if_neg (by rw [e9]; decide)], by unfold rP; rw [if_neg (by rw [e9]; decide)]⟩)
      | (have e9 : pP a w1 w2 = false := by unfold pP; rw [sIn_f2 h24]; simp; done
         exact ⟨by unfold sP; rw [if_neg (by rw [e9]; decide)], by unfold rP; rw [if_neg (by rw [e9]; decide)]⟩)
      | (have e9 : pP a w1 w2 = false := by unfold pP; rw [ecn, decide_eq_false (p := nm < 32) (by omega)]; simp; done
         exact ⟨by unfold sP; rw [if_neg (by rw [e9]; decide)], by unfold rP; rw [if_neg (by rw [e9]; decide)]⟩)
  · -- 4 f
    refine lv_iload_n hx hb d_Mod_page_7 rfl (lv_at hl 1 rfl) ?_
    refine lv_if_lt (tgt := 36) hx hb d_Mod_page_8 (by decide) (fun h8 => ?_) (fun h8 => ?_)
    · -- 8 t
      refine lv_iconst (v := (-1)) hx hb d_Mod_page_36 (by decide) ?_
      refine hret (-1) (u, (a, x, o)) _ _ _ _ ?_ hW hS d_Mod_page_37
      first
        | (have e9 : pP a w1 w2 = false := by unfold pP; rw [decide_eq_false h4]; rfl
           exact ⟨by unfold sP; rw [if_neg (by rw [e9]; decide)], by unfold rP; rw [if_neg (by rw [e9]; decide)]⟩)
        | (have e9 : pP a w1 w2 = false := by unfold pP; rw [sIn_f1 h8]; simp; done
           exact ⟨by unfold sP; rw [if_neg (by rw [e9]; decide)], by unfold rP; rw [if_neg (by rw [e9]; decide)]⟩)
        | (have e9 : pP a w1 w2 = false := by unfold pP; rw [sIn_f2 h13]; simp; done
           exact ⟨by unfold sP; rw [if_neg (by rw [e9]; decide)], by unfold rP; rw [if_neg (by rw [e9]; decide)]⟩)
        | (have e9 : pP a w1 w2 = false := by unfold pP; rw [sIn_f1 h18]; simp; done
           exact ⟨by unfold sP; rw [if_neg (by rw [e9]; decide)], by unfold rP; rw [if_neg (by rw [e9]; decide)]⟩)
        | (have e9 : pP a w1 w2 = false := by unfold pP; rw [sIn_f2 h24]; simp; done
           exact ⟨by unfold sP; rw [if_neg (by rw [e9]; decide)], by unfold rP; rw [if_neg (by rw [e9]; decide)]⟩)
        | (have e9 : pP a w1 w2 = false := by unfold pP; rw [ecn, decide_eq_false (p := nm < 32) (by omega)]; simp; done
           exact ⟨by unfold sP; rw [if_neg (by rw [e9]; decide)], by unfold rP; rw [if_neg (by rw [e9]; decide)]⟩)
    · -- 8 f
      refine lv_iload_n hx hb d_Mod_page_11 rfl (lv_at hl 1 rfl) ?_
      refine lv_iconst (v := 5) hx hb d_Mod_page_12 (by decide) ?_
      refine lv_icmp_gt (tgt := 36) hx hb d_Mod_page_13 (by decide) (fun h13 => ?_) (fun h13 => ?_)
      · -- 13 t
        refine lv_iconst (v := (-1)) hx hb d_Mod_page_36 (by decide) ?_
        refine hret (-1) (u, (a, x, o)) _ _ _ _ ?_ hW hS d_Mod_page_37
        first
          | (have e9 : pP a w1 w2 = false := by unfold pP; rw [decide_eq_false h4]; rfl
             exact ⟨by unfold sP; rw [if_neg (by rw [e9]; decide)], by unfold rP; rw [if_neg (by rw [e9]; decide)]⟩)
          | (have e9 : pP a w1 w2 = false := by unfold pP; rw [sIn_f1 h8]; simp; done
             exact ⟨by unfold sP; rw [if_neg (by rw [e9]; decide)], by unfold rP; rw [if_neg (by rw [e9]; decide)]⟩)
          | (have e9 : pP a w1 w2 = false := by unfold pP; rw [sIn_f2 h13]; simp; done
             exact ⟨by unfold sP; rw [if_neg (by rw [e9]; decide)], by unfold rP; rw [if_neg (by rw [e9]; decide)]⟩)
          | (have e9 : pP a w1 w2 = false := by unfold pP; rw [sIn_f1 h18]; simp; done
             exact ⟨by unfold sP; rw [if_neg (by rw [e9]; decide)], by unfold rP; rw [if_neg (by rw [e9]; decide)]⟩)
          | (have e9 : pP a w1 w2 = false := by unfold pP; rw [sIn_f2 h24]; simp; done
             exact ⟨by unfold sP; rw [if_neg (by rw [e9]; decide)], by unfold rP; rw [if_neg (by rw [e9]; decide)]⟩)
          | (have e9 : pP a w1 w2 = false := by unfold pP; rw [ecn, decide_eq_false (p := nm < 32) (by omega)]; simp; done
             exact ⟨by unfold sP; rw [if_neg (by rw [e9]; decide)], by unfold rP; rw [if_neg (by rw [e9]; decide)]⟩)
      · -- 13 f
        refine lv_iload_n hx hb d_Mod_page_16 rfl (lv_at hl 2 rfl) ?_
        refine lv_iconst (v := 1) hx hb d_Mod_page_17 (by decide) ?_
        refine lv_icmp_lt (tgt := 36) hx hb d_Mod_page_18 (by decide) (fun h18 => ?_) (fun h18 => ?_)
        · -- 18 t
          refine lv_iconst (v := (-1)) hx hb d_Mod_page_36 (by decide) ?_
          refine hret (-1) (u, (a, x, o)) _ _ _ _ ?_ hW hS d_Mod_page_37
          first
            | (have e9 : pP a w1 w2 = false := by unfold pP; rw [decide_eq_false h4]; rfl
               exact ⟨by unfold sP; rw [if_neg (by rw [e9]; decide)], by unfold rP; rw [if_neg (by rw [e9]; decide)]⟩)
            | (have e9 : pP a w1 w2 = false := by unfold pP; rw [sIn_f1 h8]; simp; done
               exact ⟨by unfold sP; rw [if_neg (by rw [e9]; decide)], by unfold rP; rw [if_neg (by rw [e9]; decide)]⟩)
            | (have e9 : pP a w1 w2 = false := by unfold pP; rw [sIn_f2 h13]; simp; done
               exact ⟨by unfold sP; rw [if_neg (by rw [e9]; decide)], by unfold rP; rw [if_neg (by rw [e9]; decide)]⟩)
            | (have e9 : pP a w1 w2 = false := by unfold pP; rw [sIn_f1 h18]; simp; done
               exact ⟨by unfold sP; rw [if_neg (by rw [e9]; decide)], by unfold rP; rw [if_neg (by rw [e9]; decide)]⟩)
            | (have e9 : pP a w1 w2 = false := by unfold pP; rw [sIn_f2 h24]; simp; done
               exact ⟨by unfold sP; rw [if_neg (by rw [e9]; decide)], by unfold rP; rw [if_neg (by rw [e9]; decide)]⟩)
            | (have e9 : pP a w1 w2 = false := by unfold pP; rw [ecn, decide_eq_false (p := nm < 32) (by omega)]; simp; done
               exact ⟨by unfold sP; rw [if_neg (by rw [e9]; decide)], by unfold rP; rw [if_neg (by rw [e9]; decide)]⟩)
        · -- 18 f
          refine lv_iload_n hx hb d_Mod_page_21 rfl (lv_at hl 2 rfl) ?_
          refine lv_ldc (v := 999999) hx hb hown (hts _ w_Mod_const_77) d_Mod_page_22 ?_
          refine lv_icmp_gt (tgt := 36) hx hb d_Mod_page_24 (by decide) (fun h24 => ?_) (fun h24 => ?_)
          · -- 24 t
            refine lv_iconst (v := (-1)) hx hb d_Mod_page_36 (by decide) ?_
            refine hret (-1) (u, (a, x, o)) _ _ _ _ ?_ hW hS d_Mod_page_37
            first
              | (have e9 : pP a w1 w2 = false := by unfold pP; rw [decide_eq_false h4]; rfl
                 exact ⟨by unfold sP; rw [if_neg (by rw [e9]; decide)], by unfold rP; rw [if_neg (by rw [e9]; decide)]⟩)
              | (have e9 : pP a w1 w2 = false := by unfold pP; rw [sIn_f1 h8]; simp; done
                 exact ⟨by unfold sP; rw [if_neg (by rw [e9]; decide)], by unfold rP; rw [if_neg (by rw [e9]; decide)]⟩)
              | (have e9 : pP a w1 w2 = false := by unfold pP; rw [sIn_f2 h13]; simp; done
                 exact ⟨by unfold sP; rw [if_neg (by rw [e9]; decide)], by unfold rP; rw [if_neg (by rw [e9]; decide)]⟩)
              | (have e9 : pP a w1 w2 = false := by unfold pP; rw [sIn_f1 h18]; simp; done
                 exact ⟨by unfold sP; rw [if_neg (by rw [e9]; decide)], by unfold rP; rw [if_neg (by rw [e9]; decide)]⟩)
              | (have e9 : pP a w1 w2 = false := by unfold pP; rw [sIn_f2 h24]; simp; done
                 exact ⟨by unfold sP; rw [if_neg (by rw [e9]; decide)], by unfold rP; rw [if_neg (by rw [e9]; decide)]⟩)
              | (have e9 : pP a w1 w2 = false := by unfold pP; rw [ecn, decide_eq_false (p := nm < 32) (by omega)]; simp; done
                 exact ⟨by unfold sP; rw [if_neg (by rw [e9]; decide)], by unfold rP; rw [if_neg (by rw [e9]; decide)]⟩)
          · -- 24 f
            refine lv_aload_n hx hb d_Mod_page_27 rfl (lv_at hl 0 rfl) ?_
            refine gf_Mod_69 (z := nI nm) X hW  (gv_2_0_0 _) rfl hpc d_Mod_page_28 ?_
            refine lv_bipush (v := 32) hx hb d_Mod_page_31 (by decide) ?_
            refine lv_icmp_lt (tgt := 38) hx hb d_Mod_page_33 (by decide) (fun h33 => ?_) (fun h33 => ?_)
            · -- 33 t
              have h33 : nm < 32 := (nI_ltI (a := nm) (b := 32) (by omega) (by omega)).mp h33
              refine lv_iconst (v := 0) hx hb d_Mod_page_38 (by decide) ?_
              refine lv_istore_n hx hb d_Mod_page_39 rfl hl (by decide) rfl (fun ls hl => ?_)
              have hl : lv_has ls 4 [(3, .int 0), (0, .ref (ad 74)), (1, .int w1), (2, .int w2)] := hl
              have lp40 : ∀ (fuel : Nat) (i : Nat) (ls : Array Slot) (H : Heap) (locs : List Loc), (i ≤ nm) → (sDup a w1 w2 i = false) → nm - i < fuel → lv_has ls 4 [(0, .ref (ad 74)), (1, .int w1), (2, .int w2), (3, .int (nI i))] → gW g A ad np u (a, x, o) H → va_S A s.heap H locs → W p l e R s m args below meth c H locs 0 0 Q (F0 m 40 ls []) := by
                intro fuel
                induction fuel with
                | zero => intro i ls H locs _ _ hfu; exact absurd hfu (Nat.not_lt_zero _)
                | succ fuel ih40 =>
                  intro i ls H locs hi hd hfu hl hW hS
                  refine lv_iload_n hx hb d_Mod_page_40 rfl (lv_at hl 3 rfl) ?_
                  refine lv_aload_n hx hb d_Mod_page_41 rfl (lv_at hl 0 rfl) ?_
                  refine gf_Mod_69 (z := nI nm) X hW  (gv_2_0_0 _) rfl hpc d_Mod_page_42 ?_
                  refine lv_icmp_ge (tgt := 76) hx hb d_Mod_page_45 (by decide) (fun h45 => ?_) (fun h45 => ?_)
                  · -- 45 t
                    have h45 : nm ≤ i := (nI_leI (a := nm) (b := i) (by omega) (by omega)).mp h45
                    refine lv_aload_n hx hb d_Mod_page_76 rfl (lv_at hl 0 rfl) ?_
                    refine gf_Mod_7 X hW  d_Mod_page_77 ?_
                    refine lv_aload_n hx hb d_Mod_page_80 rfl (lv_at hl 0 rfl) ?_
                    refine gf_Mod_69 (z := nI nm) X hW  (gv_2_0_0 _) rfl hpc d_Mod_page_81 ?_
                    refine lv_iload_n hx hb d_Mod_page_84 rfl (lv_at hl 1 rfl) ?_
                    refine gy_is (z := w1) (q := (2, 1, nm)) hx hb hK hW hS (by omega) rfl (show vp_in _ 32 from vp_in_nI (by omega) (by decide)) (gv_2_1 (by omega)) ((gi_2_1 _).trans (by rw [nI_clamp (by omega)])) d_Mod_page_85 (fun H locs hW hS => ?_)
                    have hW : gW g A ad np u (gu a 1 nm w1, x, o) H := hW
                    refine lv_aload_n hx hb d_Mod_page_86 rfl (lv_at hl 0 rfl) ?_
                    refine gf_Mod_13 X hW  d_Mod_page_87 ?_
                    refine lv_aload_n hx hb d_Mod_page_90 rfl (lv_at hl 0 rfl) ?_
                    refine gf_Mod_69 (z := nI nm) X hW  (gv_2_0_0 _) rfl hpc d_Mod_page_91 ?_
                    refine lv_iload_n hx hb d_Mod_page_94 rfl (lv_at hl 2 rfl) ?_
                    refine gy_is (z := w2) (q := (2, 2, nm)) hx hb hK hW hS (by omega) rfl (show vp_in _ 32 from vp_in_nI (by omega) (by decide)) (gv_2_2 (by omega)) ((gi_2_2 _).trans (by rw [nI_clamp (by omega)])) d_Mod_page_95 (fun H locs hW hS => ?_)
                    have hW : gW g A ad np u (gu (gu a 1 nm w1) 2 nm w2, x, o) H := hW
                    refine lv_aload_n hx hb d_Mod_page_96 rfl (lv_at hl 0 rfl) ?_
                    refine gf_Mod_16 X hW  d_Mod_page_97 ?_
                    refine lv_aload_n hx hb d_Mod_page_100 rfl (lv_at hl 0 rfl) ?_
                    refine gf_Mod_69 (z := nI nm) X hW  (gv_2_0_0 _) rfl hpc d_Mod_page_101 ?_
                    refine lv_bipush (v := (-2)) hx hb d_Mod_page_104 (by decide) ?_
                    refine gy_is (z := (-2)) (q := (2, 3, nm)) hx hb hK hW hS (by omega) rfl (show vp_in _ 32 from vp_in_nI (by omega) (by decide)) (gv_2_3 (by omega)) ((gi_2_3 _).trans (by rw [nI_clamp (by omega)])) d_Mod_page_106 (fun H locs hW hS => ?_)
                    have hW : gW g A ad np u (gu (gu (gu a 1 nm w1) 2 nm w2) 3 nm (-2), x, o) H := hW
                    refine lv_aload_n hx hb d_Mod_page_107 rfl (lv_at hl 0 rfl) ?_
                    refine lv_aload_n hx hb d_Mod_page_108 rfl (lv_at hl 0 rfl) ?_
                    refine gf_Mod_69 (z := nI nm) X hW  (gv_2_0_0 _) rfl hpc d_Mod_page_109 ?_
                    refine lv_iconst (v := 1) hx hb d_Mod_page_112 (by decide) ?_
                    refine lv_iadd hx hb d_Mod_page_113 ?_
                    rw [show (nI nm) + 1 = nI (nm + 1) from nI_1 nm]
                    refine pf_Mod_69 (z := nI (nm + 1)) X hW hS  (gv_2_0_0 _) rfl rfl rfl d_Mod_page_114 (fun H locs hW hS => ?_)
                    have hW : gW g A ad np u (gu (gu (gu (gu a 1 nm w1) 2 nm w2) 3 nm (-2)) 0 0 (nI (nm + 1)), x, o) H := hW
                    refine lv_aload_n hx hb d_Mod_page_117 rfl (lv_at hl 0 rfl) ?_
                    refine gf_Mod_69 (z := nI (nm + 1)) X hW  (gv_2_0_0 _) rfl rfl d_Mod_page_118 ?_
                    refine lv_iconst (v := 1) hx hb d_Mod_page_121 (by decide) ?_
                    refine lv_isub hx hb d_Mod_page_122 ?_
                    rw [show (nI (nm + 1)) - 1 = nI nm from nI_pred nm]
                    refine hret (nI nm) (u, (gu (gu (gu (gu a 1 nm w1) 2 nm w2) 3 nm (-2)) 0 0 (nI (nm + 1)), x, o)) _ _ _ _ ?_ hW hS d_Mod_page_123
                    have e9 : pP a w1 w2 = true := by unfold pP; rw [decide_eq_true h4, sIn_t h8 h13, sIn_t h18 h24, ecn, decide_eq_true h33, show nm = i by omega, hd]; rfl
                    exact ⟨by unfold sP; rw [if_pos e9, ecn], by unfold rP; rw [if_pos e9, ecn]⟩
                  · -- 45 f
                    have h45 : i < nm := Nat.lt_of_not_le fun q => h45 ((nI_leI (a := nm) (b := i) (by omega) (by omega)).mpr q)
                    refine lv_aload_n hx hb d_Mod_page_48 rfl (lv_at hl 0 rfl) ?_
                    refine gf_Mod_7 X hW  d_Mod_page_49 ?_
                    refine lv_iload_n hx hb d_Mod_page_52 rfl (lv_at hl 3 rfl) ?_
                    refine gy_ia (z := a 1 i) (q := (2, 1, i)) hx hb hK hW (by omega) rfl (show vp_in _ 32 from vp_in_nI (by omega) (by decide)) (gv_2_1 (by omega)) ((gi_2_1 _).trans (by rw [nI_clamp (by omega)])) rfl d_Mod_page_53 ?_
                    refine lv_iload_n hx hb d_Mod_page_54 rfl (lv_at hl 1 rfl) ?_
                    refine lv_icmp_ne (tgt := 70) hx hb d_Mod_page_55 (by decide) (fun h55 => ?_) (fun h55 => ?_)
                    · -- 55 t
                      refine lv_iinc (v := nI (i + 1)) (k := 3) hx hb d_Mod_page_70 hl rfl (nI_inc i) (by decide) rfl (fun ls hl => ?_)
                      have hl : lv_has ls 4 [(3, .int (nI (i + 1))), (0, .ref (ad 74)), (1, .int w1), (2, .int w2)] := hl
                      refine lv_goto (tgt := 40) hx hb d_Mod_page_73 (by decide) ?_
                      exact ih40 (i + 1) _ _ _ (by omega) (sDup_step hd (fun q => by first | exact h55 q.1 | exact h65 q.2)) (by omega) (lv_sub hl [1, 2, 3, 0] rfl) hW hS
                    · -- 55 f
                      refine lv_aload_n hx hb d_Mod_page_58 rfl (lv_at hl 0 rfl) ?_
                      refine gf_Mod_13 X hW  d_Mod_page_59 ?_
                      refine lv_iload_n hx hb d_Mod_page_62 rfl (lv_at hl 3 rfl) ?_
                      refine gy_ia (z := a 2 i) (q := (2, 2, i)) hx hb hK hW (by omega) rfl (show vp_in _ 32 from vp_in_nI (by omega) (by decide)) (gv_2_2 (by omega)) ((gi_2_2 _).trans (by rw [nI_clamp (by omega)])) rfl d_Mod_page_63 ?_
                      refine lv_iload_n hx hb d_Mod_page_64 rfl (lv_at hl 2 rfl) ?_
                      refine lv_icmp_ne (tgt := 70) hx hb d_Mod_page_65 (by decide) (fun h65 => ?_) (fun h65 => ?_)
                      · -- 65 t
                        refine lv_iinc (v := nI (i + 1)) (k := 3) hx hb d_Mod_page_70 hl rfl (nI_inc i) (by decide) rfl (fun ls hl => ?_)
                        have hl : lv_has ls 4 [(3, .int (nI (i + 1))), (0, .ref (ad 74)), (1, .int w1), (2, .int w2)] := hl
                        refine lv_goto (tgt := 40) hx hb d_Mod_page_73 (by decide) ?_
                        exact ih40 (i + 1) _ _ _ (by omega) (sDup_step hd (fun q => by first | exact h55 q.1 | exact h65 q.2)) (by omega) (lv_sub hl [1, 2, 3, 0] rfl) hW hS
                      · -- 65 f
                        refine lv_iconst (v := (-1)) hx hb d_Mod_page_68 (by decide) ?_
                        refine hret (-1) (u, (a, x, o)) _ _ _ _ ?_ hW hS d_Mod_page_69
                        have e9 : pP a w1 w2 = false := by unfold pP; rw [ecn, sDup_hit h55 h65 (show i < nm by omega)]; simp
                        exact ⟨by unfold sP; rw [if_neg (by rw [e9]; decide)], by unfold rP; rw [if_neg (by rw [e9]; decide)]⟩
              exact lp40 _ 0 _ _ _ (Nat.zero_le _) rfl (Nat.lt_succ_self _) (lv_sub hl [1, 2, 3, 0] rfl) hW hS
            · -- 33 f
              have h33 : 32 ≤ nm := Nat.le_of_not_lt fun q => h33 ((nI_ltI (a := nm) (b := 32) (by omega) (by omega)).mpr q)
              refine lv_iconst (v := (-1)) hx hb d_Mod_page_36 (by decide) ?_
              refine hret (-1) (u, (a, x, o)) _ _ _ _ ?_ hW hS d_Mod_page_37
              first
                | (have e9 : pP a w1 w2 = false := by unfold pP; rw [decide_eq_false h4]; rfl
                   exact ⟨by unfold sP; rw [if_neg (by rw [e9]; decide)], by unfold rP; rw [if_neg (by rw [e9]; decide)]⟩)
                | (have e9 : pP a w1 w2 = false := by unfold pP; rw [sIn_f1 h8]; simp; done
                   exact ⟨by unfold sP; rw [if_neg (by rw [e9]; decide)], by unfold rP; rw [if_neg (by rw [e9]; decide)]⟩)
                | (have e9 : pP a w1 w2 = false := by unfold pP; rw [sIn_f2 h13]; simp; done
                   exact ⟨by unfold sP; rw [if_neg (by rw [e9]; decide)], by unfold rP; rw [if_neg (by rw [e9]; decide)]⟩)
                | (have e9 : pP a w1 w2 = false := by unfold pP; rw [sIn_f1 h18]; simp; done
                   exact ⟨by unfold sP; rw [if_neg (by rw [e9]; decide)], by unfold rP; rw [if_neg (by rw [e9]; decide)]⟩)
                | (have e9 : pP a w1 w2 = false := by unfold pP; rw [sIn_f2 h24]; simp; done
                   exact ⟨by unfold sP; rw [if_neg (by rw [e9]; decide)], by unfold rP; rw [if_neg (by rw [e9]; decide)]⟩)
                | (have e9 : pP a w1 w2 = false := by unfold pP; rw [ecn, decide_eq_false (p := nm < 32) (by omega)]; simp; done
                   exact ⟨by unfold sP; rw [if_neg (by rw [e9]; decide)], by unfold rP; rw [if_neg (by rw [e9]; decide)]⟩)
theorem C_Mod_page (l : Launch) {g : gG} {A : Nat → Prop} {ad : Nat → Nat} {np : Nat} {u : gS} {a x : gA} {o : gL} {nm : Nat} {w1 w2 : Int32} (hw : WFw nm a) : CtI l y_Mod_page b_Mod_page 4 .int 0 [.ref (ad 74), .int w1, .int w2] g A ad np u (a, x, o) (fun r t => t = (u, (sP a w1 w2, x, o)) ∧ r = rP a w1 w2) := mkI (by decide) rfl (Nat.le_of_ble_eq_true rfl) (fun _ _ _ => rfl) (B_Mod_page l hw)

set_option maxHeartbeats 400000 in
set_option maxRecDepth 20000 in
theorem B_Mod_taken (l : Launch) {g : gG} {A : Nat → Prop} {ad : Nat → Nat} {np : Nat} {u v : gS} {x1 y1 : Nat} {w : Int32} (hw : w = nI x1) (hx1 : x1 ≤ 999999) (hy1 : y1 ≤ 999999) : BdI l b_Mod_taken 5 R_Mod 0 [.ref (ad 74), .int w, .int (nI y1)] g A ad np u v (fun r t => t = (u, v) ∧ r = tkI x1 y1) := by
  intro p e R s m args below meth c Q ls X hW hS hR hl hret
  have hx := X.1.1
  have hb := X.1.2.1
  have hml := X.1.2.2.1
  have hown := X.1.2.2.2.1
  have hts := X.1.2.2.2.2
  have hK := X.2.1
  subst hw
  have hl : lv_has ls 5 [(0, .ref (ad 74)), (1, .int (nI x1)), (2, .int (nI y1))] := hl
  refine lv_iconst (v := 0) hx hb d_Mod_taken_0 (by decide) ?_
  refine lv_istore_n hx hb d_Mod_taken_1 rfl hl (by decide) rfl (fun ls hl => ?_)
  have hl : lv_has ls 5 [(3, .int 0), (0, .ref (ad 74)), (1, .int (nI x1)), (2, .int (nI y1))] := hl
  refine lv_iload_n hx hb d_Mod_taken_2 rfl (lv_at hl 2 rfl) ?_
  refine lv_istore hx hb d_Mod_taken_3 hl (by decide) rfl (fun ls hl => ?_)
  have hl : lv_has ls 5 [(4, .int (nI x1)), (3, .int 0), (0, .ref (ad 74)), (1, .int (nI x1)), (2, .int (nI y1))] := hl
  have lp5 : ∀ (fuel : Nat) (f : Nat) (y : Nat) (dd : Nat) (ls : Array Slot) (H : Heap) (locs : List Loc), (y < 10 ^ f) → (y ≤ x1) → (dd + dgF f y = dgF 10 x1) → y < fuel → lv_has ls 5 [(0, .ref (ad 74)), (1, .int (nI x1)), (2, .int (nI y1)), (3, .int (nI dd)), (4, .int (nI y))] → gW g A ad np u v H → va_S A s.heap H locs → W p l e R s m args below meth c H locs 0 0 Q (F0 m 5 ls []) := by
    intro fuel
    induction fuel with
    | zero => intro f y dd ls H locs _ _ _ hfu; exact absurd hfu (Nat.not_lt_zero _)
    | succ fuel ih5 =>
      intro f y dd ls H locs hy hyy he hfu hl hW hS
      refine lv_iload hx hb d_Mod_taken_5 (lv_at hl 4 rfl) ?_
      refine lv_if_le (tgt := 24) hx hb d_Mod_taken_7 (by decide) (fun h7 => ?_) (fun h7 => ?_)
      · -- 7 t
        have h7 : y ≤ 0 := (nI_leI (a := y) (b := 0) (by omega) (by omega)).mp h7
        have hdd : dd = dgF 10 x1 := by rw [show y = 0 by omega, dgF_0] at he; omega
        refine lv_iload_n hx hb d_Mod_taken_24 rfl (lv_at hl 2 rfl) ?_
        refine lv_istore hx hb d_Mod_taken_25 hl (by decide) rfl (fun ls hl => ?_)
        have hl : lv_has ls 5 [(4, .int (nI y1)), (0, .ref (ad 74)), (1, .int (nI x1)), (2, .int (nI y1)), (3, .int (nI dd))] := hl
        have lp27 : ∀ (fuel : Nat) (f2 : Nat) (y2 : Nat) (ls : Array Slot) (H : Heap) (locs : List Loc), (y2 < 10 ^ f2) → (y2 ≤ y1) → (pfF 10 y1 x1 = pfF f2 y2 x1) → y2 < fuel → lv_has ls 5 [(0, .ref (ad 74)), (1, .int (nI x1)), (2, .int (nI y1)), (3, .int (nI dd)), (4, .int (nI y2))] → gW g A ad np u v H → va_S A s.heap H locs → W p l e R s m args below meth c H locs 0 0 Q (F0 m 27 ls []) := by
          intro fuel
          induction fuel with
          | zero => intro f2 y2 ls H locs _ _ _ hfu; exact absurd hfu (Nat.not_lt_zero _)
          | succ fuel ih27 =>
            intro f2 y2 ls H locs hy2 hyy2 he2 hfu hl hW hS
            refine lv_iload hx hb d_Mod_taken_27 (lv_at hl 4 rfl) ?_
            refine lv_if_le (tgt := 50) hx hb d_Mod_taken_29 (by decide) (fun h29 => ?_) (fun h29 => ?_)
            · -- 29 t
              have h29 : y2 ≤ 0 := (nI_leI (a := y2) (b := 0) (by omega) (by omega)).mp h29
              refine lv_iload_n hx hb d_Mod_taken_50 rfl (lv_at hl 1 rfl) ?_
              refine lv_if_ne (tgt := 58) hx hb d_Mod_taken_51 (by decide) (fun h51 => ?_) (fun h51 => ?_)
              · -- 51 t
                have h51 : ¬ x1 = 0 := fun q => h51 ((nI_eq (a := x1) (b := 0) (by omega) (by omega)).mpr q)
                refine lv_iconst (v := (-1)) hx hb d_Mod_taken_58 (by decide) ?_
                refine hret (-1) (u, v) _ _ _ _ ?_ hW hS d_Mod_taken_59
                exact ⟨rfl, by unfold tkI; rw [if_neg (by rw [he2, show y2 = 0 by omega, pfF_z]; decide), if_neg h51]⟩
              · -- 51 f
                have h51 : x1 = 0 := (nI_eq (a := x1) (b := 0) (by omega) (by omega)).mp h51
                refine lv_iconst (v := 0) hx hb d_Mod_taken_54 (by decide) ?_
                refine lv_goto (tgt := 59) hx hb d_Mod_taken_55 (by decide) ?_
                refine hret 0 (u, v) _ _ _ _ ?_ hW hS d_Mod_taken_59
                exact ⟨rfl, by unfold tkI; rw [if_neg (by rw [he2, show y2 = 0 by omega, pfF_z]; decide), if_pos h51]⟩
            · -- 29 f
              have h29 : 0 < y2 := Nat.lt_of_not_le fun q => h29 ((nI_leI (a := y2) (b := 0) (by omega) (by omega)).mpr q)
              refine lv_iload hx hb d_Mod_taken_32 (lv_at hl 4 rfl) ?_
              refine lv_iload_n hx hb d_Mod_taken_34 rfl (lv_at hl 1 rfl) ?_
              refine lv_icmp_ne (tgt := 40) hx hb d_Mod_taken_35 (by decide) (fun h35 => ?_) (fun h35 => ?_)
              · -- 35 t
                have h35 : ¬ y2 = x1 := fun q => h35 ((nI_eq (a := y2) (b := x1) (by omega) (by omega)).mpr q)
                refine lv_iload hx hb d_Mod_taken_40 (lv_at hl 4 rfl) ?_
                refine lv_bipush (v := 10) hx hb d_Mod_taken_42 (by decide) ?_
                refine lv_idiv hx hb d_Mod_taken_44 (by decide) ?_
                rw [show (nI y2) / 10 = nI (y2 / 10) from pk_div (d := 10) (by omega) (by decide) (by decide)]
                refine lv_istore hx hb d_Mod_taken_45 hl (by decide) rfl (fun ls hl => ?_)
                have hl : lv_has ls 5 [(4, .int (nI (y2 / 10))), (0, .ref (ad 74)), (1, .int (nI x1)), (2, .int (nI y1)), (3, .int (nI dd))] := hl
                refine lv_goto (tgt := 27) hx hb d_Mod_taken_47 (by decide) ?_
                obtain ⟨f', rfl⟩ := pow_ne hy2 h29
                exact ih27 f' (y2 / 10) _ _ _ (by rw [Nat.pow_succ] at hy2; omega) (by omega) (he2.trans (pfF_step h29 h35)) (by omega) (lv_sub hl [1, 2, 3, 4, 0] rfl) hW hS
              · -- 35 f
                have h35 : y2 = x1 := (nI_eq (a := y2) (b := x1) (by omega) (by omega)).mp h35
                refine lv_iload_n hx hb d_Mod_taken_38 rfl (lv_at hl 3 rfl) ?_
                refine hret (nI dd) (u, v) _ _ _ _ ?_ hW hS d_Mod_taken_39
                obtain ⟨f', rfl⟩ := pow_ne hy2 h29
                exact ⟨rfl, by unfold tkI; rw [if_pos (by rw [he2]; exact pfF_hit h29 h35), hdd]⟩
        exact lp27 _ 10 y1 _ _ _ (by omega) (Nat.le_refl _) rfl (Nat.lt_succ_self _) (lv_sub hl [1, 2, 3, 4, 0] rfl) hW hS
      · -- 7 f
        have h7 : 0 < y := Nat.lt_of_not_le fun q => h7 ((nI_leI (a := y) (b := 0) (by omega) (by omega)).mpr q)
        refine lv_iload_n hx hb d_Mod_taken_10 rfl (lv_at hl 3 rfl) ?_
        refine lv_iconst (v := 1) hx hb d_Mod_taken_11 (by decide) ?_
        refine lv_iadd hx hb d_Mod_taken_12 ?_
        rw [show (nI dd) + 1 = nI (dd + 1) from nI_1 dd]
        refine lv_istore_n hx hb d_Mod_taken_13 rfl hl (by decide) rfl (fun ls hl => ?_)
        have hl : lv_has ls 5 [(3, .int (nI (dd + 1))), (0, .ref (ad 74)), (1, .int (nI x1)), (2, .int (nI y1)), (4, .int (nI y))] := hl
        refine lv_iload hx hb d_Mod_taken_14 (lv_at hl 4 rfl) ?_
        refine lv_bipush (v := 10) hx hb d_Mod_taken_16 (by decide) ?_
        refine lv_idiv hx hb d_Mod_taken_18 (by decide) ?_
        rw [show (nI y) / 10 = nI (y / 10) from pk_div (d := 10) (by omega) (by decide) (by decide)]
        refine lv_istore hx hb d_Mod_taken_19 hl (by decide) rfl (fun ls hl => ?_)
        have hl : lv_has ls 5 [(4, .int (nI (y / 10))), (3, .int (nI (dd + 1))), (0, .ref (ad 74)), (1, .int (nI x1)), (2, .int (nI y1))] := hl
        refine lv_goto (tgt := 5) hx hb d_Mod_taken_21 (by decide) ?_
        obtain ⟨f', rfl⟩ := pow_ne hy h7
        exact ih5 f' (y / 10) (dd + 1) _ _ _ (by rw [Nat.pow_succ] at hy; omega) (by omega) (by rw [dgF_s h7] at he; omega) (by omega) (lv_sub hl [2, 3, 4, 1, 0] rfl) hW hS
  exact lp5 _ 10 x1 0 _ _ _ (by omega) (Nat.le_refl _) (Nat.zero_add _) (Nat.lt_succ_self _) (lv_sub hl [2, 3, 4, 1, 0] rfl) hW hS
theorem C_Mod_taken (l : Launch) {g : gG} {A : Nat → Prop} {ad : Nat → Nat} {np : Nat} {u v : gS} {x1 y1 : Nat} {w : Int32} (hw : w = nI x1) (hx1 : x1 ≤ 999999) (hy1 : y1 ≤ 999999) : CtI l y_Mod_taken b_Mod_taken 5 .int 0 [.ref (ad 74), .int w, .int (nI y1)] g A ad np u v (fun r t => t = (u, v) ∧ r = tkI x1 y1) := mkI (by decide) rfl (Nat.le_of_ble_eq_true rfl) (fun _ _ _ => rfl) (B_Mod_taken l hw hx1 hy1)

set_option maxHeartbeats 400000 in
set_option maxRecDepth 20000 in
theorem B_Mod_allowed (l : Launch) {g : gG} {A : Nat → Prop} {ad : Nat → Nat} {np : Nat} {u : gS} {a x : gA} {o : gL} {nm : Nat} {w1 : Int32} (hw : WFw nm a) : BdI l b_Mod_allowed 7 R_Mod 1 [.ref (ad 74), .int w1] g A ad np u (a, x, o) (fun r t => t = (u, (a, x, o)) ∧ r = bI (sIs a w1 && sAlw a w1.toNatClampNeg)) := by
  intro p e R s m args below meth c Q ls X hW hS hR hl hret
  have hx := X.1.1
  have hb := X.1.2.1
  have hml := X.1.2.2.1
  have hown := X.1.2.2.2.1
  have hts := X.1.2.2.2.2
  have hK := X.2.1
  have hl : lv_has ls 7 [(0, .ref (ad 74)), (1, .int w1)] := hl
  have hnp := hw.1
  have hpc := hw.2.1
  refine lv_aload_n hx hb d_Mod_allowed_0 rfl (lv_at hl 0 rfl) ?_
  refine lv_iload_n hx hb d_Mod_allowed_1 rfl (lv_at hl 1 rfl) ?_
  refine gc_iV (As := [.int w1]) (b := ad 74) (rest := []) X cw_Mod_78 (C_Mod_isPage l (u := u) (a := a) (x := x) (o := o) (w := w1)) hW hS (gW_recv (ci := 7) (fs := gf7 ad) hK hW (by omega) (fun σ τ => ge_7 rfl σ τ) (r := (R_Mod, F_Mod, 37)) rfl) ⟨Nat.le_trans (Nat.le_of_ble_eq_true rfl) hR.1, Nat.le_trans (Nat.le_of_ble_eq_true rfl) hR.2⟩ rfl hl.1 rfl (Nat.le_of_ble_eq_true rfl) d_Mod_allowed_2 ⟨Nat.zero_le _, Nat.zero_le _⟩ (fun r t H locs hp hW hS => ?_)
  obtain ⟨rfl, rfl⟩ := hp
  have hW : gW g A ad np u (a, x, o) H := hW
  refine lv_if_ne (tgt := 10) hx hb d_Mod_allowed_5 (by decide) (fun h5 => ?_) (fun h5 => ?_)
  · -- 5 t
    have h5 : (sIs a w1) = true := bI_n0 h5
    have h5a := h5
    obtain ⟨P, hP, rfl⟩ := sIs_of hpc hnp h5
    obtain ⟨⟨hh, hh6, e1⟩, ⟨yy, hy1, hy2, e2⟩, -⟩ := hw.2.2.1 P hP
    obtain ⟨rc, hrc, e3, e4⟩ := hw.2.2.2.1 hh hh6
    obtain ⟨pr, hpr⟩ : ∃ pr : Nat → Int32, pr = fun i => a 8 (4 * hh + i) := ⟨_, rfl⟩
    obtain ⟨al, hal⟩ : ∃ al : Nat → Int32, al = fun i => a 9 (4 * hh + i) := ⟨_, rfl⟩
    have hsA : sAlw a P = (alS pr al yy rc).2 := by unfold sAlw; rw [e1, e2, nI_clamp (by omega), nI_clamp (by omega), e3, nI_clamp (by omega), hpr, hal]
    refine lv_iconst (v := (-1)) hx hb d_Mod_allowed_10 (by decide) ?_
    refine lv_istore_n hx hb d_Mod_allowed_11 rfl hl (by decide) rfl (fun ls hl => ?_)
    have hl : lv_has ls 7 [(2, .int (-1)), (0, .ref (ad 74)), (1, .int (nI P))] := hl
    refine lv_iconst (v := 1) hx hb d_Mod_allowed_12 (by decide) ?_
    refine lv_istore_n hx hb d_Mod_allowed_13 rfl hl (by decide) rfl (fun ls hl => ?_)
    have hl : lv_has ls 7 [(3, .int 1), (2, .int (-1)), (0, .ref (ad 74)), (1, .int (nI P))] := hl
    refine lv_iconst (v := 0) hx hb d_Mod_allowed_14 (by decide) ?_
    refine lv_istore hx hb d_Mod_allowed_15 hl (by decide) rfl (fun ls hl => ?_)
    have hl : lv_has ls 7 [(4, .int 0), (3, .int 1), (2, .int (-1)), (0, .ref (ad 74)), (1, .int (nI P))] := hl
    have lp17 : ∀ (fuel : Nat) (i : Nat) (ls : Array Slot) (H : Heap) (locs : List Loc), (i ≤ rc) → rc - i < fuel → lv_has ls 7 [(0, .ref (ad 74)), (1, .int (nI P)), (2, .int ((alS pr al yy i).1)), (3, .int (bI (alS pr al yy i).2)), (4, .int (nI i))] → gW g A ad np u (a, x, o) H → va_S A s.heap H locs → W p l e R s m args below meth c H locs 0 0 Q (F0 m 17 ls []) := by
      intro fuel
      induction fuel with
      | zero => intro i ls H locs _ hfu; exact absurd hfu (Nat.not_lt_zero _)
      | succ fuel ih17 =>
        intro i ls H locs hi hfu hl hW hS
        refine lv_iload hx hb d_Mod_allowed_17 (lv_at hl 4 rfl) ?_
        refine lv_aload_n hx hb d_Mod_allowed_19 rfl (lv_at hl 0 rfl) ?_
        refine gf_Mod_38 X hW  d_Mod_allowed_20 ?_
        refine lv_aload_n hx hb d_Mod_allowed_23 rfl (lv_at hl 0 rfl) ?_
        refine gf_Mod_7 X hW  d_Mod_allowed_24 ?_
        refine lv_iload_n hx hb d_Mod_allowed_27 rfl (lv_at hl 1 rfl) ?_
        refine gy_ia (z := nI hh) (q := (2, 1, P)) hx hb hK hW (by omega) rfl (show vp_in _ 32 from vp_in_nI (by omega) (by decide)) (gv_2_1 (by omega)) ((gi_2_1 _).trans (by rw [nI_clamp (by omega)])) e1 d_Mod_allowed_28 ?_
        refine gy_ia (z := nI rc) (q := (2, 10, hh)) hx hb hK hW (by omega) rfl (show vp_in _ 6 from vp_in_nI (by omega) (by decide)) (gv_2_10 (by omega)) ((gi_2_10 _).trans (by rw [nI_clamp (by omega)])) e3 d_Mod_allowed_29 ?_
        refine lv_icmp_ge (tgt := 122) hx hb d_Mod_allowed_30 (by decide) (fun h30 => ?_) (fun h30 => ?_)
        · -- 30 t
          have h30 : rc ≤ i := (nI_leI (a := rc) (b := i) (by omega) (by omega)).mp h30
          refine lv_iload_n hx hb d_Mod_allowed_122 rfl (lv_at hl 3 rfl) ?_
          refine hret (bI (alS pr al yy i).2) (u, (a, x, o)) _ _ _ _ ?_ hW hS d_Mod_allowed_123
          exact ⟨rfl, by rw [h5a, nI_clamp (by omega), hsA, show rc = i by omega]; rfl⟩
        · -- 30 f
          have h30 : i < rc := Nat.lt_of_not_le fun q => h30 ((nI_leI (a := rc) (b := i) (by omega) (by omega)).mpr q)
          refine lv_iconst (v := 4) hx hb d_Mod_allowed_33 (by decide) ?_
          refine lv_aload_n hx hb d_Mod_allowed_34 rfl (lv_at hl 0 rfl) ?_
          refine gf_Mod_7 X hW  d_Mod_allowed_35 ?_
          refine lv_iload_n hx hb d_Mod_allowed_38 rfl (lv_at hl 1 rfl) ?_
          refine gy_ia (z := nI hh) (q := (2, 1, P)) hx hb hK hW (by omega) rfl (show vp_in _ 32 from vp_in_nI (by omega) (by decide)) (gv_2_1 (by omega)) ((gi_2_1 _).trans (by rw [nI_clamp (by omega)])) e1 d_Mod_allowed_39 ?_
          refine lv_imul hx hb d_Mod_allowed_40 ?_
          rw [show 4 * (nI hh) = nI (4 * hh) from pk_mul 4 hh]
          refine lv_iload hx hb d_Mod_allowed_41 (lv_at hl 4 rfl) ?_
          refine lv_iadd hx hb d_Mod_allowed_43 ?_
          rw [show (nI (4 * hh)) + (nI i) = nI (4 * hh + i) from nI_add _ _]
          refine lv_istore hx hb d_Mod_allowed_44 hl (by decide) rfl (fun ls hl => ?_)
          have hl : lv_has ls 7 [(5, .int (nI (4 * hh + i))), (0, .ref (ad 74)), (1, .int (nI P)), (2, .int ((alS pr al yy i).1)), (3, .int (bI (alS pr al yy i).2)), (4, .int (nI i))] := hl
          obtain ⟨qx, hqx, hp8⟩ := e4 i (by omega)
          have hpi : pr i = nI qx := by rw [hpr]; exact hp8
          refine lv_aload_n hx hb d_Mod_allowed_46 rfl (lv_at hl 1 rfl) ?_
          refine lv_aload_n hx hb d_Mod_allowed_47 rfl (lv_at hl 1 rfl) ?_
          refine gf_Mod_31 X hW  d_Mod_allowed_48 ?_
          refine lv_iload hx hb d_Mod_allowed_51 (lv_at hl 0 rfl) ?_
          refine gy_ia (z := a 8 (4 * hh + i)) (q := (2, 8, (4 * hh + i))) hx hb hK hW (by omega) rfl (show vp_in _ 24 from vp_in_nI (by omega) (by decide)) (gv_2_8 (by omega)) ((gi_2_8 _).trans (by rw [nI_clamp (by omega)])) rfl d_Mod_allowed_53 ?_
          refine lv_aload_n hx hb d_Mod_allowed_54 rfl (lv_at hl 1 rfl) ?_
          refine gf_Mod_13 X hW  d_Mod_allowed_55 ?_
          refine lv_iload_n hx hb d_Mod_allowed_58 rfl (lv_at hl 2 rfl) ?_
          refine gy_ia (z := nI yy) (q := (2, 2, P)) hx hb hK hW (by omega) rfl (show vp_in _ 32 from vp_in_nI (by omega) (by decide)) (gv_2_2 (by omega)) ((gi_2_2 _).trans (by rw [nI_clamp (by omega)])) e2 d_Mod_allowed_59 ?_
          refine gc_iV (As := [.int (a 8 (4 * hh + i)), .int (nI yy)]) (b := ad 74) (rest := []) X cw_Mod_85 (C_Mod_taken l (x1 := qx) (y1 := yy) hp8 hqx hy2) hW hS (gW_recv (ci := 7) (fs := gf7 ad) hK hW (by omega) (fun σ τ => ge_7 rfl σ τ) (r := (R_Mod, F_Mod, 37)) rfl) ⟨Nat.le_trans (Nat.le_of_ble_eq_true rfl) hR.1, Nat.le_trans (Nat.le_of_ble_eq_true rfl) hR.2⟩ rfl hl.1 rfl (Nat.le_of_ble_eq_true rfl) d_Mod_allowed_60 ⟨Nat.zero_le _, Nat.zero_le _⟩ (fun r t H locs hp hW hS => ?_)
          obtain ⟨rfl, rfl⟩ := hp
          have hW : gW g A ad np u (a, x, o) H := hW
          refine lv_istore hx hb d_Mod_allowed_63 hl (by decide) rfl (fun ls hl => ?_)
          have hl : lv_has ls 7 [(6, .int (tkI qx yy)), (5, .int (nI (4 * hh + i))), (0, .ref (ad 74)), (1, .int (nI P)), (2, .int ((alS pr al yy i).1)), (3, .int (bI (alS pr al yy i).2)), (4, .int (nI i))] := hl
          refine lv_iload hx hb d_Mod_allowed_65 (lv_at hl 0 rfl) ?_
          refine lv_iload_n hx hb d_Mod_allowed_67 rfl (lv_at hl 4 rfl) ?_
          refine lv_icmp_le (tgt := 85) hx hb d_Mod_allowed_68 (by decide) (fun h68 => ?_) (fun h68 => ?_)
          · -- 68 t
            refine lv_iload hx hb d_Mod_allowed_85 (lv_at hl 0 rfl) ?_
            refine lv_iload_n hx hb d_Mod_allowed_87 rfl (lv_at hl 4 rfl) ?_
            refine lv_icmp_ne (tgt := 116) hx hb d_Mod_allowed_88 (by decide) (fun h88 => ?_) (fun h88 => ?_)
            · -- 88 t
              refine lv_iinc (v := nI (i + 1)) (k := 6) hx hb d_Mod_allowed_116 hl rfl (nI_inc i) (by decide) rfl (fun ls hl => ?_)
              have hl : lv_has ls 7 [(4, .int (nI (i + 1))), (6, .int (tkI qx yy)), (5, .int (nI (4 * hh + i))), (0, .ref (ad 74)), (1, .int (nI P)), (2, .int ((alS pr al yy i).1)), (3, .int (bI (alS pr al yy i).2))] := hl
              refine lv_goto (tgt := 17) hx hb d_Mod_allowed_119 (by decide) ?_
              have e9 : alS pr al yy (i + 1) = _ := alS_no (by rw [hpi, nI_clamp (by omega)]) h68 (by first | exact Or.inl h88 | exact Or.inr h93)
              exact ih17 (i + 1) _ _ _ (by omega) (by omega) (by rw [e9]; exact (lv_sub hl [3, 4, 5, 6, 0] rfl)) hW hS
            · -- 88 f
              refine lv_iload hx hb d_Mod_allowed_91 (lv_at hl 0 rfl) ?_
              refine lv_if_lt (tgt := 116) hx hb d_Mod_allowed_93 (by decide) (fun h93 => ?_) (fun h93 => ?_)
              · -- 93 t
                refine lv_iinc (v := nI (i + 1)) (k := 6) hx hb d_Mod_allowed_116 hl rfl (nI_inc i) (by decide) rfl (fun ls hl => ?_)
                have hl : lv_has ls 7 [(4, .int (nI (i + 1))), (6, .int (tkI qx yy)), (5, .int (nI (4 * hh + i))), (0, .ref (ad 74)), (1, .int (nI P)), (2, .int ((alS pr al yy i).1)), (3, .int (bI (alS pr al yy i).2))] := hl
                refine lv_goto (tgt := 17) hx hb d_Mod_allowed_119 (by decide) ?_
                have e9 : alS pr al yy (i + 1) = _ := alS_no (by rw [hpi, nI_clamp (by omega)]) h68 (by first | exact Or.inl h88 | exact Or.inr h93)
                exact ih17 (i + 1) _ _ _ (by omega) (by omega) (by rw [e9]; exact (lv_sub hl [3, 4, 5, 6, 0] rfl)) hW hS
              · -- 93 f
                refine lv_iload_n hx hb d_Mod_allowed_96 rfl (lv_at hl 5 rfl) ?_
                refine lv_if_ne (tgt := 110) hx hb d_Mod_allowed_97 (by decide) (fun h97 => ?_) (fun h97 => ?_)
                · -- 97 t
                  have h97 : (alS pr al yy i).2 = true := bI_n0 h97
                  refine lv_iconst (v := 1) hx hb d_Mod_allowed_110 (by decide) ?_
                  refine lv_goto (tgt := 115) hx hb d_Mod_allowed_111 (by decide) ?_
                  refine lv_istore_n hx hb d_Mod_allowed_115 rfl hl (by decide) rfl (fun ls hl => ?_)
                  have hl : lv_has ls 7 [(3, .int 1), (6, .int (tkI qx yy)), (5, .int (nI (4 * hh + i))), (0, .ref (ad 74)), (1, .int (nI P)), (2, .int ((alS pr al yy i).1)), (4, .int (nI i))] := hl
                  refine lv_iinc (v := nI (i + 1)) (k := 6) hx hb d_Mod_allowed_116 hl rfl (nI_inc i) (by decide) rfl (fun ls hl => ?_)
                  have hl : lv_has ls 7 [(4, .int (nI (i + 1))), (3, .int 1), (6, .int (tkI qx yy)), (5, .int (nI (4 * hh + i))), (0, .ref (ad 74)), (1, .int (nI P)), (2, .int ((alS pr al yy i).1))] := hl
                  refine lv_goto (tgt := 17) hx hb d_Mod_allowed_119 (by decide) ?_
                  have e9 : alS pr al yy (i + 1) = (_, true) := alS_eq (by rw [hpi, nI_clamp (by omega)]) h68 h88 h93 (by first | (rw [h97]; rfl) | (rw [h107, Bool.or_true]))
                  exact ih17 (i + 1) _ _ _ (by omega) (by omega) (by rw [e9]; exact (lv_sub hl [4, 5, 6, 1, 0] rfl)) hW hS
                · -- 97 f
                  have h97 : (alS pr al yy i).2 = false := bI_0 h97
                  refine lv_aload_n hx hb d_Mod_allowed_100 rfl (lv_at hl 2 rfl) ?_
                  refine gf_Mod_34 X hW  d_Mod_allowed_101 ?_
                  refine lv_iload hx hb d_Mod_allowed_104 (lv_at hl 1 rfl) ?_
                  refine gy_za (z := bI (decide (¬ al i = 0))) (q := (2, 9, (4 * hh + i))) hx hb hK hW (by omega) rfl (show vp_in _ 24 from vp_in_nI (by omega) (by decide)) (gv_2_9 (by omega)) ((gi_2_9 _).trans (by rw [nI_clamp (by omega)])) (by rw [hal]; exact bI_of (hw.2.2.2.2.2.2.2.2.1 _)) d_Mod_allowed_106 ?_
                  refine lv_if_eq (tgt := 114) hx hb d_Mod_allowed_107 (by decide) (fun h107 => ?_) (fun h107 => ?_)
                  · -- 107 t
                    have h107 : (decide (¬ al i = 0)) = false := bI_0 h107
                    refine lv_iconst (v := 0) hx hb d_Mod_allowed_114 (by decide) ?_
                    refine lv_istore_n hx hb d_Mod_allowed_115 rfl hl (by decide) rfl (fun ls hl => ?_)
                    have hl : lv_has ls 7 [(3, .int 0), (6, .int (tkI qx yy)), (5, .int (nI (4 * hh + i))), (0, .ref (ad 74)), (1, .int (nI P)), (2, .int ((alS pr al yy i).1)), (4, .int (nI i))] := hl
                    refine lv_iinc (v := nI (i + 1)) (k := 6) hx hb d_Mod_allowed_116 hl rfl (nI_inc i) (by decide) rfl (fun ls hl => ?_)
                    have hl : lv_has ls 7 [(4, .int (nI (i + 1))), (3, .int 0), (6, .int (tkI qx yy)), (5, .int (nI (4 * hh + i))), (0, .ref (ad 74)), (1, .int (nI P)), (2, .int ((alS pr al yy i).1))] := hl
                    refine lv_goto (tgt := 17) hx hb d_Mod_allowed_119 (by decide) ?_
                    have e9 : alS pr al yy (i + 1) = (_, false) := alS_eq (by rw [hpi, nI_clamp (by omega)]) h68 h88 h93 (by rw [h97, h107]; rfl)
                    exact ih17 (i + 1) _ _ _ (by omega) (by omega) (by rw [e9]; exact (lv_sub hl [4, 5, 6, 1, 0] rfl)) hW hS
                  · -- 107 f
                    have h107 : (decide (¬ al i = 0)) = true := bI_n0 h107
                    refine lv_iconst (v := 1) hx hb d_Mod_allowed_110 (by decide) ?_
                    refine lv_goto (tgt := 115) hx hb d_Mod_allowed_111 (by decide) ?_
                    refine lv_istore_n hx hb d_Mod_allowed_115 rfl hl (by decide) rfl (fun ls hl => ?_)
                    have hl : lv_has ls 7 [(3, .int 1), (6, .int (tkI qx yy)), (5, .int (nI (4 * hh + i))), (0, .ref (ad 74)), (1, .int (nI P)), (2, .int ((alS pr al yy i).1)), (4, .int (nI i))] := hl
                    refine lv_iinc (v := nI (i + 1)) (k := 6) hx hb d_Mod_allowed_116 hl rfl (nI_inc i) (by decide) rfl (fun ls hl => ?_)
                    have hl : lv_has ls 7 [(4, .int (nI (i + 1))), (3, .int 1), (6, .int (tkI qx yy)), (5, .int (nI (4 * hh + i))), (0, .ref (ad 74)), (1, .int (nI P)), (2, .int ((alS pr al yy i).1))] := hl
                    refine lv_goto (tgt := 17) hx hb d_Mod_allowed_119 (by decide) ?_
                    have e9 : alS pr al yy (i + 1) = (_, true) := alS_eq (by rw [hpi, nI_clamp (by omega)]) h68 h88 h93 (by first | (rw [h97]; rfl) | (rw [h107, Bool.or_true]))
                    exact ih17 (i + 1) _ _ _ (by omega) (by omega) (by rw [e9]; exact (lv_sub hl [4, 5, 6, 1, 0] rfl)) hW hS
          · -- 68 f
            refine lv_iload hx hb d_Mod_allowed_71 (lv_at hl 0 rfl) ?_
            refine lv_istore_n hx hb d_Mod_allowed_73 rfl hl (by decide) rfl (fun ls hl => ?_)
            have hl : lv_has ls 7 [(2, .int (tkI qx yy)), (6, .int (tkI qx yy)), (5, .int (nI (4 * hh + i))), (0, .ref (ad 74)), (1, .int (nI P)), (3, .int (bI (alS pr al yy i).2)), (4, .int (nI i))] := hl
            refine lv_aload_n hx hb d_Mod_allowed_74 rfl (lv_at hl 3 rfl) ?_
            refine gf_Mod_34 X hW  d_Mod_allowed_75 ?_
            refine lv_iload hx hb d_Mod_allowed_78 (lv_at hl 2 rfl) ?_
            refine gy_za (z := bI (decide (¬ al i = 0))) (q := (2, 9, (4 * hh + i))) hx hb hK hW (by omega) rfl (show vp_in _ 24 from vp_in_nI (by omega) (by decide)) (gv_2_9 (by omega)) ((gi_2_9 _).trans (by rw [nI_clamp (by omega)])) (by rw [hal]; exact bI_of (hw.2.2.2.2.2.2.2.2.1 _)) d_Mod_allowed_80 ?_
            refine lv_istore_n hx hb d_Mod_allowed_81 rfl hl (by decide) rfl (fun ls hl => ?_)
            have hl : lv_has ls 7 [(3, .int (bI (decide (¬ al i = 0)))), (2, .int (tkI qx yy)), (6, .int (tkI qx yy)), (5, .int (nI (4 * hh + i))), (0, .ref (ad 74)), (1, .int (nI P)), (4, .int (nI i))] := hl
            refine lv_goto (tgt := 116) hx hb d_Mod_allowed_82 (by decide) ?_
            refine lv_iinc (v := nI (i + 1)) (k := 6) hx hb d_Mod_allowed_116 hl rfl (nI_inc i) (by decide) rfl (fun ls hl => ?_)
            have hl : lv_has ls 7 [(4, .int (nI (i + 1))), (3, .int (bI (decide (¬ al i = 0)))), (2, .int (tkI qx yy)), (6, .int (tkI qx yy)), (5, .int (nI (4 * hh + i))), (0, .ref (ad 74)), (1, .int (nI P))] := hl
            refine lv_goto (tgt := 17) hx hb d_Mod_allowed_119 (by decide) ?_
            have e9 : alS pr al yy (i + 1) = _ := alS_gt (by rw [hpi, nI_clamp (by omega)]) (Int32.not_le.mp h68)
            exact ih17 (i + 1) _ _ _ (by omega) (by omega) (by rw [e9]; exact (lv_sub hl [5, 6, 2, 1, 0] rfl)) hW hS
    exact lp17 _ 0 _ _ _ (Nat.zero_le _) (Nat.lt_succ_self _) (lv_sub hl [3, 4, 2, 1, 0] rfl) hW hS
  · -- 5 f
    have h5 : (sIs a w1) = false := bI_0 h5
    refine lv_iconst (v := 0) hx hb d_Mod_allowed_8 (by decide) ?_
    refine hret 0 (u, (a, x, o)) _ _ _ _ ?_ hW hS d_Mod_allowed_9
    exact ⟨rfl, by rw [h5]; rfl⟩
theorem C_Mod_allowed (l : Launch) {g : gG} {A : Nat → Prop} {ad : Nat → Nat} {np : Nat} {u : gS} {a x : gA} {o : gL} {nm : Nat} {w1 : Int32} (hw : WFw nm a) : CtI l y_Mod_allowed b_Mod_allowed 7 .boolean 1 [.ref (ad 74), .int w1] g A ad np u (a, x, o) (fun r t => t = (u, (a, x, o)) ∧ r = bI (sIs a w1 && sAlw a w1.toNatClampNeg)) := mkI (by decide) rfl (Nat.le_of_ble_eq_true rfl) (fun r t h => h.2 ▸ bI_nar _) (B_Mod_allowed l hw)

set_option maxHeartbeats 400000 in
set_option maxRecDepth 20000 in
theorem B_Mod_isFetched (l : Launch) {g : gG} {A : Nat → Prop} {ad : Nat → Nat} {np : Nat} {u : gS} {a x : gA} {o : gL} {nf : Nat} {w1 : Int32} (hnf : a 0 23 = nI nf) (hnf32 : nf ≤ 32) : BdI l b_Mod_isFetched 4 R_Mod 0 [.ref (ad 74), .int w1] g A ad np u (a, x, o) (fun r t => t = (u, (a, x, o)) ∧ r = bI (pEq (a 14) w1 nf)) := by
  intro p e R s m args below meth c Q ls X hW hS hR hl hret
  have hx := X.1.1
  have hb := X.1.2.1
  have hml := X.1.2.2.1
  have hown := X.1.2.2.2.1
  have hts := X.1.2.2.2.2
  have hK := X.2.1
  have hl : lv_has ls 4 [(0, .ref (ad 74)), (1, .int w1)] := hl
  refine lv_iconst (v := 0) hx hb d_Mod_isFetched_0 (by decide) ?_
  refine lv_istore_n hx hb d_Mod_isFetched_1 rfl hl (by decide) rfl (fun ls hl => ?_)
  have hl : lv_has ls 4 [(2, .int 0), (0, .ref (ad 74)), (1, .int w1)] := hl
  refine lv_iconst (v := 0) hx hb d_Mod_isFetched_2 (by decide) ?_
  refine lv_istore_n hx hb d_Mod_isFetched_3 rfl hl (by decide) rfl (fun ls hl => ?_)
  have hl : lv_has ls 4 [(3, .int 0), (2, .int 0), (0, .ref (ad 74)), (1, .int w1)] := hl
  have lp4 : ∀ (fuel : Nat) (i : Nat) (ls : Array Slot) (H : Heap) (locs : List Loc), (i ≤ nf) → nf - i < fuel → lv_has ls 4 [(0, .ref (ad 74)), (1, .int w1), (2, .int (bI (pEq (a 14) w1 i))), (3, .int (nI i))] → gW g A ad np u (a, x, o) H → va_S A s.heap H locs → W p l e R s m args below meth c H locs 0 0 Q (F0 m 4 ls []) := by
    intro fuel
    induction fuel with
    | zero => intro i ls H locs _ hfu; exact absurd hfu (Nat.not_lt_zero _)
    | succ fuel ih4 =>
      intro i ls H locs hi hfu hl hW hS
      refine lv_iload_n hx hb d_Mod_isFetched_4 rfl (lv_at hl 3 rfl) ?_
      refine lv_aload_n hx hb d_Mod_isFetched_5 rfl (lv_at hl 0 rfl) ?_
      refine gf_Mod_89 (z := nI nf) X hW  (gv_2_0_23 _) rfl hnf d_Mod_isFetched_6 ?_
      refine lv_icmp_ge (tgt := 38) hx hb d_Mod_isFetched_9 (by decide) (fun h9 => ?_) (fun h9 => ?_)
      · -- 9 t
        have h9 : nf ≤ i := (nI_leI (a := nf) (b := i) (by omega) (by omega)).mp h9
        refine lv_iload_n hx hb d_Mod_isFetched_38 rfl (lv_at hl 2 rfl) ?_
        refine hret (bI (pEq (a 14) w1 i)) (u, (a, x, o)) _ _ _ _ ?_ hW hS d_Mod_isFetched_39
        exact ⟨rfl, by rw [show nf = i by omega]⟩
      · -- 9 f
        have h9 : i < nf := Nat.lt_of_not_le fun q => h9 ((nI_leI (a := nf) (b := i) (by omega) (by omega)).mpr q)
        refine lv_iload_n hx hb d_Mod_isFetched_12 rfl (lv_at hl 2 rfl) ?_
        refine lv_if_ne (tgt := 26) hx hb d_Mod_isFetched_13 (by decide) (fun h13 => ?_) (fun h13 => ?_)
        · -- 13 t
          have h13 : (pEq (a 14) w1 i) = true := bI_n0 h13
          refine lv_iconst (v := 1) hx hb d_Mod_isFetched_26 (by decide) ?_
          refine lv_goto (tgt := 31) hx hb d_Mod_isFetched_27 (by decide) ?_
          refine lv_istore_n hx hb d_Mod_isFetched_31 rfl hl (by decide) rfl (fun ls hl => ?_)
          have hl : lv_has ls 4 [(2, .int 1), (0, .ref (ad 74)), (1, .int w1), (3, .int (nI i))] := hl
          refine lv_iinc (v := nI (i + 1)) (k := 3) hx hb d_Mod_isFetched_32 hl rfl (nI_inc i) (by decide) rfl (fun ls hl => ?_)
          have hl : lv_has ls 4 [(3, .int (nI (i + 1))), (2, .int 1), (0, .ref (ad 74)), (1, .int w1)] := hl
          refine lv_goto (tgt := 4) hx hb d_Mod_isFetched_35 (by decide) ?_
          have e9 : pEq (a 14) w1 (i + 1) = true := by rw [pEq_s]; first | (rw [h13]; rfl) | (rw [decide_eq_true h23, Bool.or_true]) | (rw [h13, decide_eq_false h23]; rfl)
          exact ih4 (i + 1) _ _ _ (by omega) (by omega) (by rw [e9]; exact (lv_sub hl [2, 3, 1, 0] rfl)) hW hS
        · -- 13 f
          have h13 : (pEq (a 14) w1 i) = false := bI_0 h13
          refine lv_aload_n hx hb d_Mod_isFetched_16 rfl (lv_at hl 0 rfl) ?_
          refine gf_Mod_50 X hW  d_Mod_isFetched_17 ?_
          refine lv_iload_n hx hb d_Mod_isFetched_20 rfl (lv_at hl 3 rfl) ?_
          refine gy_ia (z := a 14 i) (q := (2, 14, i)) hx hb hK hW (by omega) rfl (show vp_in _ 32 from vp_in_nI (by omega) (by decide)) (gv_2_14 (by omega)) ((gi_2_14 _).trans (by rw [nI_clamp (by omega)])) rfl d_Mod_isFetched_21 ?_
          refine lv_iload_n hx hb d_Mod_isFetched_22 rfl (lv_at hl 1 rfl) ?_
          refine lv_icmp_ne (tgt := 30) hx hb d_Mod_isFetched_23 (by decide) (fun h23 => ?_) (fun h23 => ?_)
          · -- 23 t
            refine lv_iconst (v := 0) hx hb d_Mod_isFetched_30 (by decide) ?_
            refine lv_istore_n hx hb d_Mod_isFetched_31 rfl hl (by decide) rfl (fun ls hl => ?_)
            have hl : lv_has ls 4 [(2, .int 0), (0, .ref (ad 74)), (1, .int w1), (3, .int (nI i))] := hl
            refine lv_iinc (v := nI (i + 1)) (k := 3) hx hb d_Mod_isFetched_32 hl rfl (nI_inc i) (by decide) rfl (fun ls hl => ?_)
            have hl : lv_has ls 4 [(3, .int (nI (i + 1))), (2, .int 0), (0, .ref (ad 74)), (1, .int w1)] := hl
            refine lv_goto (tgt := 4) hx hb d_Mod_isFetched_35 (by decide) ?_
            have e9 : pEq (a 14) w1 (i + 1) = false := by rw [pEq_s]; first | (rw [h13]; rfl) | (rw [decide_eq_true h23, Bool.or_true]) | (rw [h13, decide_eq_false h23]; rfl)
            exact ih4 (i + 1) _ _ _ (by omega) (by omega) (by rw [e9]; exact (lv_sub hl [2, 3, 1, 0] rfl)) hW hS
          · -- 23 f
            refine lv_iconst (v := 1) hx hb d_Mod_isFetched_26 (by decide) ?_
            refine lv_goto (tgt := 31) hx hb d_Mod_isFetched_27 (by decide) ?_
            refine lv_istore_n hx hb d_Mod_isFetched_31 rfl hl (by decide) rfl (fun ls hl => ?_)
            have hl : lv_has ls 4 [(2, .int 1), (0, .ref (ad 74)), (1, .int w1), (3, .int (nI i))] := hl
            refine lv_iinc (v := nI (i + 1)) (k := 3) hx hb d_Mod_isFetched_32 hl rfl (nI_inc i) (by decide) rfl (fun ls hl => ?_)
            have hl : lv_has ls 4 [(3, .int (nI (i + 1))), (2, .int 1), (0, .ref (ad 74)), (1, .int w1)] := hl
            refine lv_goto (tgt := 4) hx hb d_Mod_isFetched_35 (by decide) ?_
            have e9 : pEq (a 14) w1 (i + 1) = true := by rw [pEq_s]; first | (rw [h13]; rfl) | (rw [decide_eq_true h23, Bool.or_true]) | (rw [h13, decide_eq_false h23]; rfl)
            exact ih4 (i + 1) _ _ _ (by omega) (by omega) (by rw [e9]; exact (lv_sub hl [2, 3, 1, 0] rfl)) hW hS
  exact lp4 _ 0 _ _ _ (Nat.zero_le _) (Nat.lt_succ_self _) (lv_sub hl [2, 3, 1, 0] rfl) hW hS
theorem C_Mod_isFetched (l : Launch) {g : gG} {A : Nat → Prop} {ad : Nat → Nat} {np : Nat} {u : gS} {a x : gA} {o : gL} {nf : Nat} {w1 : Int32} (hnf : a 0 23 = nI nf) (hnf32 : nf ≤ 32) : CtI l y_Mod_isFetched b_Mod_isFetched 4 .boolean 0 [.ref (ad 74), .int w1] g A ad np u (a, x, o) (fun r t => t = (u, (a, x, o)) ∧ r = bI (pEq (a 14) w1 nf)) := mkI (by decide) rfl (Nat.le_of_ble_eq_true rfl) (fun r t h => h.2 ▸ bI_nar _) (B_Mod_isFetched l hnf hnf32)

set_option maxHeartbeats 400000 in
set_option maxRecDepth 20000 in
theorem B_Mod_fetch (l : Launch) {g : gG} {A : Nat → Prop} {ad : Nat → Nat} {np : Nat} {u : gS} {a x : gA} {o : gL} {nm P hh nf : Nat} (hP : P < nm) (hnp : nm ≤ 32) (hh1 : a 1 P = nI hh) (hh6 : hh < 6) (hnf : a 0 23 = nI nf) (hd : dst (a 14) nf nm) : BdV l b_Mod_fetch 4 R_Mod 1 [.ref (ad 74), .int (nI P)] g A ad np u (a, x, o) (fun t => t = (u, (sFe a P, x, o))) := by
  intro p e R s m args below meth c Q ls X hW hS hR hl hret
  have hx := X.1.1
  have hb := X.1.2.1
  have hml := X.1.2.2.1
  have hown := X.1.2.2.2.1
  have hts := X.1.2.2.2.2
  have hK := X.2.1
  have hl : lv_has ls 4 [(0, .ref (ad 74)), (1, .int (nI P))] := hl
  have hnf32 : nf ≤ 32 := Nat.le_trans (dst_le hd hnp) hnp
  refine lv_aload_n hx hb d_Mod_fetch_0 rfl (lv_at hl 0 rfl) ?_
  refine lv_iload_n hx hb d_Mod_fetch_1 rfl (lv_at hl 1 rfl) ?_
  refine gc_iV (As := [.int (nI P)]) (b := ad 74) (rest := []) X cw_Mod_92 (C_Mod_isFetched l (u := u) (a := a) (x := x) (o := o) (w1 := nI P) hnf hnf32) hW hS (gW_recv (ci := 7) (fs := gf7 ad) hK hW (by omega) (fun σ τ => ge_7 rfl σ τ) (r := (R_Mod, F_Mod, 37)) rfl) ⟨Nat.le_trans (Nat.le_of_ble_eq_true rfl) hR.1, Nat.le_trans (Nat.le_of_ble_eq_true rfl) hR.2⟩ rfl hl.1 rfl (Nat.le_of_ble_eq_true rfl) d_Mod_fetch_2 ⟨Nat.zero_le _, Nat.zero_le _⟩ (fun r t H locs hp hW hS => ?_)
  obtain ⟨rfl, rfl⟩ := hp
  have hW : gW g A ad np u (a, x, o) H := hW
  refine lv_if_eq (tgt := 9) hx hb d_Mod_fetch_5 (by decide) (fun h5 => ?_) (fun h5 => ?_)
  · -- 5 t
    have h5 : (pEq (a 14) (nI P) nf) = false := bI_0 h5
    have hr32 : nf < 32 := dst_room hd hP rfl h5 hnp
    refine lv_aload_n hx hb d_Mod_fetch_9 rfl (lv_at hl 0 rfl) ?_
    refine gf_Mod_7 X hW  d_Mod_fetch_10 ?_
    refine lv_iload_n hx hb d_Mod_fetch_13 rfl (lv_at hl 1 rfl) ?_
    refine gy_ia (z := nI hh) (q := (2, 1, P)) hx hb hK hW (by omega) rfl (show vp_in _ 32 from vp_in_nI (by omega) (by decide)) (gv_2_1 (by omega)) ((gi_2_1 _).trans (by rw [nI_clamp (by omega)])) hh1 d_Mod_fetch_14 ?_
    refine lv_istore_n hx hb d_Mod_fetch_15 rfl hl (by decide) rfl (fun ls hl => ?_)
    have hl : lv_has ls 4 [(2, .int (nI hh)), (0, .ref (ad 74)), (1, .int (nI P))] := hl
    refine lv_aload_n hx hb d_Mod_fetch_16 rfl (lv_at hl 1 rfl) ?_
    refine gf_Mod_95 (z := a 0 26) X hW  (gv_2_0_26 _) rfl rfl d_Mod_fetch_17 ?_
    refine lv_aload_n hx hb d_Mod_fetch_20 rfl (lv_at hl 1 rfl) ?_
    refine gf_Mod_56 X hW  d_Mod_fetch_21 ?_
    refine lv_iload_n hx hb d_Mod_fetch_24 rfl (lv_at hl 0 rfl) ?_
    refine gy_ia (z := a 16 hh) (q := (2, 16, hh)) hx hb hK hW (by omega) rfl (show vp_in _ 6 from vp_in_nI (by omega) (by decide)) (gv_2_16 (by omega)) ((gi_2_16 _).trans (by rw [nI_clamp (by omega)])) rfl d_Mod_fetch_25 ?_
    refine lv_icmp_le (tgt := 36) hx hb d_Mod_fetch_26 (by decide) (fun h26 => ?_) (fun h26 => ?_)
    · -- 26 t
      refine lv_aload_n hx hb d_Mod_fetch_36 rfl (lv_at hl 1 rfl) ?_
      refine gf_Mod_56 X hW  d_Mod_fetch_37 ?_
      refine lv_iload_n hx hb d_Mod_fetch_40 rfl (lv_at hl 0 rfl) ?_
      refine gy_ia (z := a 16 hh) (q := (2, 16, hh)) hx hb hK hW (by omega) rfl (show vp_in _ 6 from vp_in_nI (by omega) (by decide)) (gv_2_16 (by omega)) ((gi_2_16 _).trans (by rw [nI_clamp (by omega)])) rfl d_Mod_fetch_41 ?_
      refine W.eq (g2 := F0 m 42 ls [.int (tm a hh)]) (by first | rw [← tm_le h26] | rw [← tm_gt h26]) ?_
      refine lv_istore_n hx hb d_Mod_fetch_42 rfl hl (by decide) rfl (fun ls hl => ?_)
      have hl : lv_has ls 4 [(3, .int (tm a hh)), (2, .int (nI hh)), (0, .ref (ad 74)), (1, .int (nI P))] := hl
      refine lv_aload_n hx hb d_Mod_fetch_43 rfl (lv_at hl 2 rfl) ?_
      refine gf_Mod_56 X hW  d_Mod_fetch_44 ?_
      refine lv_iload_n hx hb d_Mod_fetch_47 rfl (lv_at hl 1 rfl) ?_
      refine lv_iload_n hx hb d_Mod_fetch_48 rfl (lv_at hl 0 rfl) ?_
      refine lv_aload_n hx hb d_Mod_fetch_49 rfl (lv_at hl 2 rfl) ?_
      refine gf_Mod_98 (z := a 0 16) X hW  (gv_2_0_16 _) rfl rfl d_Mod_fetch_50 ?_
      refine lv_iadd hx hb d_Mod_fetch_53 ?_
      refine gy_is (z := (tm a hh) + (a 0 16)) (q := (2, 16, hh)) hx hb hK hW hS (by omega) rfl (show vp_in _ 6 from vp_in_nI (by omega) (by decide)) (gv_2_16 (by omega)) ((gi_2_16 _).trans (by rw [nI_clamp (by omega)])) d_Mod_fetch_54 (fun H locs hW hS => ?_)
      have hW : gW g A ad np u (gu a 16 hh ((tm a hh) + (a 0 16)), x, o) H := hW
      refine lv_aload_n hx hb d_Mod_fetch_55 rfl (lv_at hl 2 rfl) ?_
      refine lv_iload_n hx hb d_Mod_fetch_56 rfl (lv_at hl 0 rfl) ?_
      refine lv_iconst (v := 1) hx hb d_Mod_fetch_57 (by decide) ?_
      refine lv_iadd hx hb d_Mod_fetch_58 ?_
      refine pf_Mod_95 (z := (tm a hh) + 1) X hW hS  (gv_2_0_26 _) rfl rfl rfl d_Mod_fetch_59 (fun H locs hW hS => ?_)
      have hW : gW g A ad np u (gu (gu a 16 hh ((tm a hh) + (a 0 16))) 0 26 ((tm a hh) + 1), x, o) H := hW
      refine lv_aload_n hx hb d_Mod_fetch_62 rfl (lv_at hl 2 rfl) ?_
      refine gf_Mod_50 X hW  d_Mod_fetch_63 ?_
      refine lv_aload_n hx hb d_Mod_fetch_66 rfl (lv_at hl 2 rfl) ?_
      refine gf_Mod_89 (z := nI nf) X hW  (gv_2_0_23 _) rfl hnf d_Mod_fetch_67 ?_
      refine lv_iload_n hx hb d_Mod_fetch_70 rfl (lv_at hl 3 rfl) ?_
      refine gy_is (z := nI P) (q := (2, 14, nf)) hx hb hK hW hS (by omega) rfl (show vp_in _ 32 from vp_in_nI (by omega) (by decide)) (gv_2_14 (by omega)) ((gi_2_14 _).trans (by rw [nI_clamp (by omega)])) d_Mod_fetch_71 (fun H locs hW hS => ?_)
      have hW : gW g A ad np u (gu (gu (gu a 16 hh ((tm a hh) + (a 0 16))) 0 26 ((tm a hh) + 1)) 14 nf (nI P), x, o) H := hW
      refine lv_aload_n hx hb d_Mod_fetch_72 rfl (lv_at hl 2 rfl) ?_
      refine lv_aload_n hx hb d_Mod_fetch_73 rfl (lv_at hl 2 rfl) ?_
      refine gf_Mod_89 (z := nI nf) X hW  (gv_2_0_23 _) rfl hnf d_Mod_fetch_74 ?_
      refine lv_iconst (v := 1) hx hb d_Mod_fetch_77 (by decide) ?_
      refine lv_iadd hx hb d_Mod_fetch_78 ?_
      rw [show (nI nf) + 1 = nI (nf + 1) from nI_1 nf]
      refine pf_Mod_89 (z := nI (nf + 1)) X hW hS  (gv_2_0_23 _) rfl rfl rfl d_Mod_fetch_79 (fun H locs hW hS => ?_)
      have hW : gW g A ad np u (gu (gu (gu (gu a 16 hh ((tm a hh) + (a 0 16))) 0 26 ((tm a hh) + 1)) 14 nf (nI P)) 0 23 (nI (nf + 1)), x, o) H := hW
      refine lv_aload_n hx hb d_Mod_fetch_82 rfl (lv_at hl 2 rfl) ?_
      refine lv_aload_n hx hb d_Mod_fetch_83 rfl (lv_at hl 2 rfl) ?_
      refine gf_Mod_101 (z := a 0 28) X hW  (gv_2_0_28 _) rfl rfl d_Mod_fetch_84 ?_
      refine lv_iconst (v := 1) hx hb d_Mod_fetch_87 (by decide) ?_
      refine lv_iadd hx hb d_Mod_fetch_88 ?_
      refine pf_Mod_101 (z := (a 0 28) + 1) X hW hS  (gv_2_0_28 _) rfl rfl rfl d_Mod_fetch_89 (fun H locs hW hS => ?_)
      have hW : gW g A ad np u (gu (gu (gu (gu (gu a 16 hh ((tm a hh) + (a 0 16))) 0 26 ((tm a hh) + 1)) 14 nf (nI P)) 0 23 (nI (nf + 1))) 0 28 ((a 0 28) + 1), x, o) H := hW
      refine hret (u, (gu (gu (gu (gu (gu a 16 hh ((tm a hh) + (a 0 16))) 0 26 ((tm a hh) + 1)) 14 nf (nI P)) 0 23 (nI (nf + 1))) 0 28 ((a 0 28) + 1), x, o)) _ _ _ _ ?_ hW hS d_Mod_fetch_92
      rw [sFe_n hnf (by omega) hh1 hh6 h5]
      exact rfl
    · -- 26 f
      refine lv_aload_n hx hb d_Mod_fetch_29 rfl (lv_at hl 1 rfl) ?_
      refine gf_Mod_95 (z := a 0 26) X hW  (gv_2_0_26 _) rfl rfl d_Mod_fetch_30 ?_
      refine lv_goto (tgt := 42) hx hb d_Mod_fetch_33 (by decide) ?_
      refine W.eq (g2 := F0 m 42 ls [.int (tm a hh)]) (by first | rw [← tm_le h26] | rw [← tm_gt h26]) ?_
      refine lv_istore_n hx hb d_Mod_fetch_42 rfl hl (by decide) rfl (fun ls hl => ?_)
      have hl : lv_has ls 4 [(3, .int (tm a hh)), (2, .int (nI hh)), (0, .ref (ad 74)), (1, .int (nI P))] := hl
      refine lv_aload_n hx hb d_Mod_fetch_43 rfl (lv_at hl 2 rfl) ?_
      refine gf_Mod_56 X hW  d_Mod_fetch_44 ?_
      refine lv_iload_n hx hb d_Mod_fetch_47 rfl (lv_at hl 1 rfl) ?_
      refine lv_iload_n hx hb d_Mod_fetch_48 rfl (lv_at hl 0 rfl) ?_
      refine lv_aload_n hx hb d_Mod_fetch_49 rfl (lv_at hl 2 rfl) ?_
      refine gf_Mod_98 (z := a 0 16) X hW  (gv_2_0_16 _) rfl rfl d_Mod_fetch_50 ?_
      refine lv_iadd hx hb d_Mod_fetch_53 ?_
      refine gy_is (z := (tm a hh) + (a 0 16)) (q := (2, 16, hh)) hx hb hK hW hS (by omega) rfl (show vp_in _ 6 from vp_in_nI (by omega) (by decide)) (gv_2_16 (by omega)) ((gi_2_16 _).trans (by rw [nI_clamp (by omega)])) d_Mod_fetch_54 (fun H locs hW hS => ?_)
      have hW : gW g A ad np u (gu a 16 hh ((tm a hh) + (a 0 16)), x, o) H := hW
      refine lv_aload_n hx hb d_Mod_fetch_55 rfl (lv_at hl 2 rfl) ?_
      refine lv_iload_n hx hb d_Mod_fetch_56 rfl (lv_at hl 0 rfl) ?_
      refine lv_iconst (v := 1) hx hb d_Mod_fetch_57 (by decide) ?_
      refine lv_iadd hx hb d_Mod_fetch_58 ?_
      refine pf_Mod_95 (z := (tm a hh) + 1) X hW hS  (gv_2_0_26 _) rfl rfl rfl d_Mod_fetch_59 (fun H locs hW hS => ?_)
      have hW : gW g A ad np u (gu (gu a 16 hh ((tm a hh) + (a 0 16))) 0 26 ((tm a hh) + 1), x, o) H := hW
      refine lv_aload_n hx hb d_Mod_fetch_62 rfl (lv_at hl 2 rfl) ?_
      refine gf_Mod_50 X hW  d_Mod_fetch_63 ?_
      refine lv_aload_n hx hb d_Mod_fetch_66 rfl (lv_at hl 2 rfl) ?_
      refine gf_Mod_89 (z := nI nf) X hW  (gv_2_0_23 _) rfl hnf d_Mod_fetch_67 ?_
      refine lv_iload_n hx hb d_Mod_fetch_70 rfl (lv_at hl 3 rfl) ?_
      refine gy_is (z := nI P) (q := (2, 14, nf)) hx hb hK hW hS (by omega) rfl (show vp_in _ 32 from vp_in_nI (by omega) (by decide)) (gv_2_14 (by omega)) ((gi_2_14 _).trans (by rw [nI_clamp (by omega)])) d_Mod_fetch_71 (fun H locs hW hS => ?_)
      have hW : gW g A ad np u (gu (gu (gu a 16 hh ((tm a hh) + (a 0 16))) 0 26 ((tm a hh) + 1)) 14 nf (nI P), x, o) H := hW
      refine lv_aload_n hx hb d_Mod_fetch_72 rfl (lv_at hl 2 rfl) ?_
      refine lv_aload_n hx hb d_Mod_fetch_73 rfl (lv_at hl 2 rfl) ?_
      refine gf_Mod_89 (z := nI nf) X hW  (gv_2_0_23 _) rfl hnf d_Mod_fetch_74 ?_
      refine lv_iconst (v := 1) hx hb d_Mod_fetch_77 (by decide) ?_
      refine lv_iadd hx hb d_Mod_fetch_78 ?_
      rw [show (nI nf) + 1 = nI (nf + 1) from nI_1 nf]
      refine pf_Mod_89 (z := nI (nf + 1)) X hW hS  (gv_2_0_23 _) rfl rfl rfl d_Mod_fetch_79 (fun H locs hW hS => ?_)
      have hW : gW g A ad np u (gu (gu (gu (gu a 16 hh ((tm a hh) + (a 0 16))) 0 26 ((tm a hh) + 1)) 14 nf (nI P)) 0 23 (nI (nf + 1)), x, o) H := hW
      refine lv_aload_n hx hb d_Mod_fetch_82 rfl (lv_at hl 2 rfl) ?_
      refine lv_aload_n hx hb d_Mod_fetch_83 rfl (lv_at hl 2 rfl) ?_
      refine gf_Mod_101 (z := a 0 28) X hW  (gv_2_0_28 _) rfl rfl d_Mod_fetch_84 ?_
      refine lv_iconst (v := 1) hx hb d_Mod_fetch_87 (by decide) ?_
      refine lv_iadd hx hb d_Mod_fetch_88 ?_
      refine pf_Mod_101 (z := (a 0 28) + 1) X hW hS  (gv_2_0_28 _) rfl rfl rfl d_Mod_fetch_89 (fun H locs hW hS => ?_)
      have hW : gW g A ad np u (gu (gu (gu (gu (gu a 16 hh ((tm a hh) + (a 0 16))) 0 26 ((tm a hh) + 1)) 14 nf (nI P)) 0 23 (nI (nf + 1))) 0 28 ((a 0 28) + 1), x, o) H := hW
      refine hret (u, (gu (gu (gu (gu (gu a 16 hh ((tm a hh) + (a 0 16))) 0 26 ((tm a hh) + 1)) 14 nf (nI P)) 0 23 (nI (nf + 1))) 0 28 ((a 0 28) + 1), x, o)) _ _ _ _ ?_ hW hS d_Mod_fetch_92
      rw [sFe_n hnf (by omega) hh1 hh6 h5]
      exact rfl
  · -- 5 f
    have h5 : (pEq (a 14) (nI P) nf) = true := bI_n0 h5
    refine hret (u, (a, x, o)) _ _ _ _ ?_ hW hS d_Mod_fetch_8
    rw [sFe_y hnf (by omega) h5]
theorem C_Mod_fetch (l : Launch) {g : gG} {A : Nat → Prop} {ad : Nat → Nat} {np : Nat} {u : gS} {a x : gA} {o : gL} {nm P hh nf : Nat} (hP : P < nm) (hnp : nm ≤ 32) (hh1 : a 1 P = nI hh) (hh6 : hh < 6) (hnf : a 0 23 = nI nf) (hd : dst (a 14) nf nm) : CtV l y_Mod_fetch b_Mod_fetch 4 1 [.ref (ad 74), .int (nI P)] g A ad np u (a, x, o) (fun t => t = (u, (sFe a P, x, o))) := mkV (by decide) rfl (Nat.le_of_ble_eq_true rfl) (B_Mod_fetch l hP hnp hh1 hh6 hnf hd)

set_option maxHeartbeats 400000 in
set_option maxRecDepth 20000 in
theorem B_Mod_chase0 (l : Launch) {g : gG} {A : Nat → Prop} {ad : Nat → Nat} {np : Nat} {u : gS} {a x : gA} {o : gL} {nm P hp0 : Nat} (hw : WFw nm a) (hhp : a 0 15 = nI hp0) (hhp4 : hp0 ≤ 4) (hP : P < nm) : BdI l b_Mod_chase 5 R_Mod 2 [.ref (ad 74), .int (nI P), .int 0] g A ad np u (a, x, o) (fun r t => t = (u, (a, x, o)) ∧ r = sC2 a (hp0 + 1) P) := by
  intro p e R s m args below meth c Q ls X hW hS hR hl hret
  have hx := X.1.1
  have hb := X.1.2.1
  have hml := X.1.2.2.1
  have hown := X.1.2.2.2.1
  have hts := X.1.2.2.2.2
  have hK := X.2.1
  have hl : lv_has ls 5 [(0, .ref (ad 74)), (1, .int (nI P)), (2, .int 0)] := hl
  have hnp := hw.1
  have hpc := hw.2.1
  refine lv_iload_n hx hb d_Mod_chase_0 rfl (lv_at hl 1 rfl) ?_
  refine lv_istore_n hx hb d_Mod_chase_1 rfl hl (by decide) rfl (fun ls hl => ?_)
  have hl : lv_has ls 5 [(3, .int (nI P)), (0, .ref (ad 74)), (1, .int (nI P)), (2, .int 0)] := hl
  refine lv_iconst (v := 0) hx hb d_Mod_chase_2 (by decide) ?_
  refine lv_istore hx hb d_Mod_chase_3 hl (by decide) rfl (fun ls hl => ?_)
  have hl : lv_has ls 5 [(4, .int 0), (3, .int (nI P)), (0, .ref (ad 74)), (1, .int (nI P)), (2, .int 0)] := hl
  have lp5 : ∀ (fuel : Nat) (k : Nat) (n : Nat) (P1 : Nat) (ls : Array Slot) (H : Heap) (locs : List Loc), (k + n = hp0) → (P1 < nm) → (sC2 a (hp0 + 1) P = sC2 a (n + 1) P1) → n < fuel → lv_has ls 5 [(0, .ref (ad 74)), (2, .int 0), (3, .int (nI P1)), (4, .int (nI k))] → gW g A ad np u (a, x, o) H → va_S A s.heap H locs → W p l e R s m args below meth c H locs 0 0 Q (F0 m 5 ls []) := by
    intro fuel
    induction fuel with
    | zero => intro k n P1 ls H locs _ _ _ hfu; exact absurd hfu (Nat.not_lt_zero _)
    | succ fuel ih5 =>
      intro k n P1 ls H locs hkn hP1 he hfu hl hW hS
      refine lv_iload hx hb d_Mod_chase_5 (lv_at hl 3 rfl) ?_
      refine lv_iconst (v := 4) hx hb d_Mod_chase_7 (by decide) ?_
      refine lv_icmp_gt (tgt := 78) hx hb d_Mod_chase_8 (by decide) (fun h8 => ?_) (fun h8 => ?_)
      · exact absurd ((nI_ltI (a := 4) (b := k) (by omega) (by omega)).mp h8) (by omega)
      · -- 8 f
        have h8 : k ≤ 4 := Nat.le_of_not_lt fun q => h8 ((nI_ltI (a := 4) (b := k) (by omega) (by omega)).mpr q)
        refine lv_aload_n hx hb d_Mod_chase_11 rfl (lv_at hl 0 rfl) ?_
        refine lv_iload_n hx hb d_Mod_chase_12 rfl (lv_at hl 2 rfl) ?_
        refine gc_iV (As := [.int (nI P1)]) (b := ad 74) (rest := []) X cw_Mod_104 (C_Mod_allowed l (u := u) (a := a) (x := x) (o := o) (nm := nm) (w1 := nI P1) hw) hW hS (gW_recv (ci := 7) (fs := gf7 ad) hK hW (by omega) (fun σ τ => ge_7 rfl σ τ) (r := (R_Mod, F_Mod, 37)) rfl) ⟨Nat.le_trans (Nat.le_of_ble_eq_true rfl) hR.1, Nat.le_trans (Nat.le_of_ble_eq_true rfl) hR.2⟩ rfl hl.1 rfl (Nat.le_of_ble_eq_true rfl) d_Mod_chase_13 ⟨Nat.zero_le _, Nat.zero_le _⟩ (fun r t H locs hp hW hS => ?_)
        obtain ⟨rfl, hr9⟩ := hp
        rw [sIs_nI hpc hnp hP1, Bool.true_and, nI_clamp (by omega)] at hr9
        subst hr9
        have hW : gW g A ad np u (a, x, o) H := hW
        refine lv_if_ne (tgt := 21) hx hb d_Mod_chase_16 (by decide) (fun h16 => ?_) (fun h16 => ?_)
        · -- 16 t
          have h16 : (sAlw a P1) = true := bI_n0 h16
          refine lv_iload_n hx hb d_Mod_chase_21 rfl (lv_at hl 1 rfl) ?_
          refine lv_if_eq (tgt := 30) hx hb d_Mod_chase_22 (by decide) (fun h22 => ?_) (fun h22 => ?_)
          · -- 22 t
            refine lv_aload_n hx hb d_Mod_chase_30 rfl (lv_at hl 0 rfl) ?_
            refine gf_Mod_16 X hW  d_Mod_chase_31 ?_
            refine lv_iload_n hx hb d_Mod_chase_34 rfl (lv_at hl 2 rfl) ?_
            refine gy_ia (z := a 3 P1) (q := (2, 3, P1)) hx hb hK hW (by omega) rfl (show vp_in _ 32 from vp_in_nI (by omega) (by decide)) (gv_2_3 (by omega)) ((gi_2_3 _).trans (by rw [nI_clamp (by omega)])) rfl d_Mod_chase_35 ?_
            refine lv_bipush (v := (-2)) hx hb d_Mod_chase_36 (by decide) ?_
            refine lv_icmp_ne (tgt := 43) hx hb d_Mod_chase_38 (by decide) (fun h38 => ?_) (fun h38 => ?_)
            · -- 38 t
              refine lv_aload_n hx hb d_Mod_chase_43 rfl (lv_at hl 0 rfl) ?_
              refine gf_Mod_16 X hW  d_Mod_chase_44 ?_
              refine lv_iload_n hx hb d_Mod_chase_47 rfl (lv_at hl 2 rfl) ?_
              refine gy_ia (z := a 3 P1) (q := (2, 3, P1)) hx hb hK hW (by omega) rfl (show vp_in _ 32 from vp_in_nI (by omega) (by decide)) (gv_2_3 (by omega)) ((gi_2_3 _).trans (by rw [nI_clamp (by omega)])) rfl d_Mod_chase_48 ?_
              refine lv_bipush (v := (-3)) hx hb d_Mod_chase_49 (by decide) ?_
              refine lv_icmp_eq (tgt := 63) hx hb d_Mod_chase_51 (by decide) (fun h51 => ?_) (fun h51 => ?_)
              · -- 51 t
                refine lv_iconst (v := (-1)) hx hb d_Mod_chase_63 (by decide) ?_
                refine hret (-1) (u, (a, x, o)) _ _ _ _ ?_ hW hS d_Mod_chase_64
                refine ⟨rfl, ?_⟩
                rw [he]; show _ = (if _ then _ else _); rw [if_neg (by rw [h16]; decide), if_neg h38]; first | (rw [if_pos h51]; done) | (rw [if_neg h51, show n = 0 by omega]; rfl)
              · -- 51 f
                refine lv_iload hx hb d_Mod_chase_54 (lv_at hl 3 rfl) ?_
                refine lv_aload_n hx hb d_Mod_chase_56 rfl (lv_at hl 0 rfl) ?_
                refine gf_Mod_111 (z := nI hp0) X hW  (gv_2_0_15 _) rfl hhp d_Mod_chase_57 ?_
                refine lv_icmp_lt (tgt := 65) hx hb d_Mod_chase_60 (by decide) (fun h60 => ?_) (fun h60 => ?_)
                · -- 60 t
                  have h60 : k < hp0 := (nI_ltI (a := k) (b := hp0) (by omega) (by omega)).mp h60
                  obtain ⟨q9, hq9, e9⟩ : ∃ q, q < nm ∧ a 3 P1 = nI q := by
                    rcases (hw.2.2.1 P1 hP1).2.2.1 with q | q | q
                    · exact absurd q h38
                    · exact absurd q h51
                    · exact q
                  refine lv_aload_n hx hb d_Mod_chase_65 rfl (lv_at hl 0 rfl) ?_
                  refine gf_Mod_16 X hW  d_Mod_chase_66 ?_
                  refine lv_iload_n hx hb d_Mod_chase_69 rfl (lv_at hl 2 rfl) ?_
                  refine gy_ia (z := nI q9) (q := (2, 3, P1)) hx hb hK hW (by omega) rfl (show vp_in _ 32 from vp_in_nI (by omega) (by decide)) (gv_2_3 (by omega)) ((gi_2_3 _).trans (by rw [nI_clamp (by omega)])) e9 d_Mod_chase_70 ?_
                  refine lv_istore_n hx hb d_Mod_chase_71 rfl hl (by decide) rfl (fun ls hl => ?_)
                  have hl : lv_has ls 5 [(3, .int (nI q9)), (0, .ref (ad 74)), (2, .int 0), (4, .int (nI k))] := hl
                  refine lv_iinc (v := nI (k + 1)) (k := 3) hx hb d_Mod_chase_72 hl rfl (nI_inc k) (by decide) rfl (fun ls hl => ?_)
                  have hl : lv_has ls 5 [(4, .int (nI (k + 1))), (3, .int (nI q9)), (0, .ref (ad 74)), (2, .int 0)] := hl
                  refine lv_goto (tgt := 5) hx hb d_Mod_chase_75 (by decide) ?_
                  obtain ⟨n', rfl⟩ : ∃ n', n = n' + 1 := ⟨n - 1, by omega⟩
                  exact ih5 (k + 1) n' q9 _ _ _ (by omega) hq9 (by rw [he]; show (if _ then _ else _) = _; rw [if_neg (by rw [h16]; decide), if_neg h38, if_neg h51, e9, nI_clamp (by omega)]) (by omega) (lv_sub hl [2, 3, 1, 0] rfl) hW hS
                · -- 60 f
                  have h60 : hp0 ≤ k := Nat.le_of_not_lt fun q => h60 ((nI_ltI (a := k) (b := hp0) (by omega) (by omega)).mpr q)
                  refine lv_iconst (v := (-1)) hx hb d_Mod_chase_63 (by decide) ?_
                  refine hret (-1) (u, (a, x, o)) _ _ _ _ ?_ hW hS d_Mod_chase_64
                  refine ⟨rfl, ?_⟩
                  rw [he]; show _ = (if _ then _ else _); rw [if_neg (by rw [h16]; decide), if_neg h38]; first | (rw [if_pos h51]; done) | (rw [if_neg h51, show n = 0 by omega]; rfl)
            · -- 38 f
              refine lv_iload_n hx hb d_Mod_chase_41 rfl (lv_at hl 2 rfl) ?_
              refine hret (nI P1) (u, (a, x, o)) _ _ _ _ ?_ hW hS d_Mod_chase_42
              refine ⟨rfl, ?_⟩
              rw [he]; show _ = (if _ then _ else _); rw [if_neg (by rw [h16]; decide), if_pos h38]
          · exact absurd h22 (by decide)
        · -- 16 f
          have h16 : (sAlw a P1) = false := bI_0 h16
          refine lv_iconst (v := (-1)) hx hb d_Mod_chase_19 (by decide) ?_
          refine hret (-1) (u, (a, x, o)) _ _ _ _ ?_ hW hS d_Mod_chase_20
          refine ⟨rfl, ?_⟩
          rw [he]; show _ = (if _ then _ else _); rw [if_pos h16]
  exact lp5 _ 0 hp0 P _ _ _ (by omega) hP rfl (Nat.lt_succ_self _) (lv_sub hl [2, 4, 1, 0] rfl) hW hS
theorem C_Mod_chase0 (l : Launch) {g : gG} {A : Nat → Prop} {ad : Nat → Nat} {np : Nat} {u : gS} {a x : gA} {o : gL} {nm P hp0 : Nat} (hw : WFw nm a) (hhp : a 0 15 = nI hp0) (hhp4 : hp0 ≤ 4) (hP : P < nm) : CtI l y_Mod_chase b_Mod_chase 5 .int 2 [.ref (ad 74), .int (nI P), .int 0] g A ad np u (a, x, o) (fun r t => t = (u, (a, x, o)) ∧ r = sC2 a (hp0 + 1) P) := mkI (by decide) rfl (Nat.le_of_ble_eq_true rfl) (fun _ _ _ => rfl) (B_Mod_chase0 l hw hhp hhp4 hP)

set_option maxHeartbeats 400000 in
set_option maxRecDepth 20000 in
theorem B_Mod_chase1 (l : Launch) {g : gG} {A : Nat → Prop} {ad : Nat → Nat} {np : Nat} {u : gS} {a x : gA} {o : gL} {nm P hp0 : Nat} {nf0 : Nat} (hw : WFw nm a) (hhp : a 0 15 = nI hp0) (hhp4 : hp0 ≤ 4) (hP : P < nm) (hnf0 : a 0 23 = nI nf0) (hd0 : dst (a 14) nf0 nm) : BdI l b_Mod_chase 5 R_Mod 2 [.ref (ad 74), .int (nI P), .int 1] g A ad np u (a, x, o) (fun r t => t = (u, (sF2 (hp0 + 1) a P, x, o)) ∧ r = sC2 a (hp0 + 1) P) := by
  intro p e R s m args below meth c Q ls X hW hS hR hl hret
  have hx := X.1.1
  have hb := X.1.2.1
  have hml := X.1.2.2.1
  have hown := X.1.2.2.2.1
  have hts := X.1.2.2.2.2
  have hK := X.2.1
  have hl : lv_has ls 5 [(0, .ref (ad 74)), (1, .int (nI P)), (2, .int 1)] := hl
  have hnp := hw.1
  have hpc := hw.2.1
  refine lv_iload_n hx hb d_Mod_chase_0 rfl (lv_at hl 1 rfl) ?_
  refine lv_istore_n hx hb d_Mod_chase_1 rfl hl (by decide) rfl (fun ls hl => ?_)
  have hl : lv_has ls 5 [(3, .int (nI P)), (0, .ref (ad 74)), (1, .int (nI P)), (2, .int 1)] := hl
  refine lv_iconst (v := 0) hx hb d_Mod_chase_2 (by decide) ?_
  refine lv_istore hx hb d_Mod_chase_3 hl (by decide) rfl (fun ls hl => ?_)
  have hl : lv_has ls 5 [(4, .int 0), (3, .int (nI P)), (0, .ref (ad 74)), (1, .int (nI P)), (2, .int 1)] := hl
  have lp5 : ∀ (fuel : Nat) (k : Nat) (n : Nat) (P1 : Nat) (a1 : gA) (nf : Nat) (ls : Array Slot) (H : Heap) (locs : List Loc), (k + n = hp0) → (P1 < nm) → (wk a a1) → (sC2 a (hp0 + 1) P = sC2 a (n + 1) P1) → (sF2 (hp0 + 1) a P = sF2 (n + 1) a1 P1) → (a1 0 23 = nI nf) → (dst (a1 14) nf nm) → n < fuel → lv_has ls 5 [(0, .ref (ad 74)), (2, .int 1), (3, .int (nI P1)), (4, .int (nI k))] → gW g A ad np u (a1, x, o) H → va_S A s.heap H locs → W p l e R s m args below meth c H locs 0 0 Q (F0 m 5 ls []) := by
    intro fuel
    induction fuel with
    | zero => intro k n P1 a1 nf ls H locs _ _ _ _ _ _ _ hfu; exact absurd hfu (Nat.not_lt_zero _)
    | succ fuel ih5 =>
      intro k n P1 a1 nf ls H locs hkn hP1 hk he hs hnf hd hfu hl hW hS
      refine lv_iload hx hb d_Mod_chase_5 (lv_at hl 3 rfl) ?_
      refine lv_iconst (v := 4) hx hb d_Mod_chase_7 (by decide) ?_
      refine lv_icmp_gt (tgt := 78) hx hb d_Mod_chase_8 (by decide) (fun h8 => ?_) (fun h8 => ?_)
      · exact absurd ((nI_ltI (a := 4) (b := k) (by omega) (by omega)).mp h8) (by omega)
      · -- 8 f
        have h8 : k ≤ 4 := Nat.le_of_not_lt fun q => h8 ((nI_ltI (a := 4) (b := k) (by omega) (by omega)).mpr q)
        refine lv_aload_n hx hb d_Mod_chase_11 rfl (lv_at hl 0 rfl) ?_
        refine lv_iload_n hx hb d_Mod_chase_12 rfl (lv_at hl 2 rfl) ?_
        refine gc_iV (As := [.int (nI P1)]) (b := ad 74) (rest := []) X cw_Mod_104 (C_Mod_allowed l (u := u) (a := a1) (x := x) (o := o) (nm := nm) (w1 := nI P1) (WFw_wk hk hw)) hW hS (gW_recv (ci := 7) (fs := gf7 ad) hK hW (by omega) (fun σ τ => ge_7 rfl σ τ) (r := (R_Mod, F_Mod, 37)) rfl) ⟨Nat.le_trans (Nat.le_of_ble_eq_true rfl) hR.1, Nat.le_trans (Nat.le_of_ble_eq_true rfl) hR.2⟩ rfl hl.1 rfl (Nat.le_of_ble_eq_true rfl) d_Mod_chase_13 ⟨Nat.zero_le _, Nat.zero_le _⟩ (fun r t H locs hp hW hS => ?_)
        obtain ⟨rfl, hr9⟩ := hp
        rw [sIs_nI ((hk.2 0 (by decide)).trans hpc) hnp hP1, Bool.true_and, nI_clamp (by omega)] at hr9
        subst hr9
        have hW : gW g A ad np u (a1, x, o) H := hW
        refine lv_if_ne (tgt := 21) hx hb d_Mod_chase_16 (by decide) (fun h16 => ?_) (fun h16 => ?_)
        · -- 16 t
          have h16 : (sAlw a1 P1) = true := bI_n0 h16
          refine lv_iload_n hx hb d_Mod_chase_21 rfl (lv_at hl 1 rfl) ?_
          refine lv_if_eq (tgt := 30) hx hb d_Mod_chase_22 (by decide) (fun h22 => ?_) (fun h22 => ?_)
          · exact absurd h22 (by decide)
          · -- 22 f
            refine lv_aload_n hx hb d_Mod_chase_25 rfl (lv_at hl 0 rfl) ?_
            refine lv_iload_n hx hb d_Mod_chase_26 rfl (lv_at hl 2 rfl) ?_
            obtain ⟨⟨hh, hh6, hh1⟩, -⟩ := (WFw_wk hk hw).2.2.1 P1 hP1
            refine gc_vV (As := [.int (nI P1)]) (b := ad 74) (rest := []) X cw_Mod_107 (C_Mod_fetch l (u := u) (a := a1) (x := x) (o := o) (nm := nm) hP1 hnp hh1 hh6 hnf hd) hW hS (gW_recv (ci := 7) (fs := gf7 ad) hK hW (by omega) (fun σ τ => ge_7 rfl σ τ) (r := (R_Mod, F_Mod, 37)) rfl) ⟨Nat.le_trans (Nat.le_of_ble_eq_true rfl) hR.1, Nat.le_trans (Nat.le_of_ble_eq_true rfl) hR.2⟩ rfl hl.1 rfl (Nat.le_of_ble_eq_true rfl) d_Mod_chase_27 ⟨Nat.zero_le _, Nat.zero_le _⟩ (fun t H locs hp hW hS => ?_)
            subst hp
            have hW : gW g A ad np u (sFe a1 P1, x, o) H := hW
            have hk2 := wk_tr hk (wk_sFe a1 P1)
            have h3 : sFe a1 P1 3 = a 3 := hk2.1 3 (by decide) (by decide)
            have ha3 : a1 3 = a 3 := hk.1 3 (by decide) (by decide)
            have hal : sAlw a P1 = true := by rw [← sAlw_wk hk]; exact h16
            refine lv_aload_n hx hb d_Mod_chase_30 rfl (lv_at hl 0 rfl) ?_
            refine gf_Mod_16 X hW  d_Mod_chase_31 ?_
            refine lv_iload_n hx hb d_Mod_chase_34 rfl (lv_at hl 2 rfl) ?_
            refine gy_ia (z := a 3 P1) (q := (2, 3, P1)) hx hb hK hW (by omega) rfl (show vp_in _ 32 from vp_in_nI (by omega) (by decide)) (gv_2_3 (by omega)) ((gi_2_3 _).trans (by rw [nI_clamp (by omega)])) (congrFun h3 P1) d_Mod_chase_35 ?_
            refine lv_bipush (v := (-2)) hx hb d_Mod_chase_36 (by decide) ?_
            refine lv_icmp_ne (tgt := 43) hx hb d_Mod_chase_38 (by decide) (fun h38 => ?_) (fun h38 => ?_)
            · -- 38 t
              refine lv_aload_n hx hb d_Mod_chase_43 rfl (lv_at hl 0 rfl) ?_
              refine gf_Mod_16 X hW  d_Mod_chase_44 ?_
              refine lv_iload_n hx hb d_Mod_chase_47 rfl (lv_at hl 2 rfl) ?_
              refine gy_ia (z := a 3 P1) (q := (2, 3, P1)) hx hb hK hW (by omega) rfl (show vp_in _ 32 from vp_in_nI (by omega) (by decide)) (gv_2_3 (by omega)) ((gi_2_3 _).trans (by rw [nI_clamp (by omega)])) (congrFun h3 P1) d_Mod_chase_48 ?_
              refine lv_bipush (v := (-3)) hx hb d_Mod_chase_49 (by decide) ?_
              refine lv_icmp_eq (tgt := 63) hx hb d_Mod_chase_51 (by decide) (fun h51 => ?_) (fun h51 => ?_)
              · -- 51 t
                refine lv_iconst (v := (-1)) hx hb d_Mod_chase_63 (by decide) ?_
                refine hret (-1) (u, (sFe a1 P1, x, o)) _ _ _ _ ?_ hW hS d_Mod_chase_64
                refine ⟨?_, ?_⟩
                · rw [hs]; show _ = (u, (if _ then _ else _, x, o)); rw [if_neg (by rw [h16]; decide), ha3]; first | (rw [if_pos (Or.inr h51)]; done) | (rw [if_neg (fun q => q.elim h38 h51), show n = 0 by omega]; rfl)
                · rw [he]; show _ = (if _ then _ else _); rw [if_neg (by rw [hal]; decide), if_neg h38]; first | (rw [if_pos h51]; done) | (rw [if_neg h51, show n = 0 by omega]; rfl)
              · -- 51 f
                refine lv_iload hx hb d_Mod_chase_54 (lv_at hl 3 rfl) ?_
                refine lv_aload_n hx hb d_Mod_chase_56 rfl (lv_at hl 0 rfl) ?_
                refine gf_Mod_111 (z := nI hp0) X hW  (gv_2_0_15 _) rfl ((hk2.2 15 (by decide)).trans hhp) d_Mod_chase_57 ?_
                refine lv_icmp_lt (tgt := 65) hx hb d_Mod_chase_60 (by decide) (fun h60 => ?_) (fun h60 => ?_)
                · -- 60 t
                  have h60 : k < hp0 := (nI_ltI (a := k) (b := hp0) (by omega) (by omega)).mp h60
                  obtain ⟨q9, hq9, e9⟩ : ∃ q, q < nm ∧ a 3 P1 = nI q := by
                    rcases (hw.2.2.1 P1 hP1).2.2.1 with q | q | q
                    · exact absurd q h38
                    · exact absurd q h51
                    · exact q
                  refine lv_aload_n hx hb d_Mod_chase_65 rfl (lv_at hl 0 rfl) ?_
                  refine gf_Mod_16 X hW  d_Mod_chase_66 ?_
                  refine lv_iload_n hx hb d_Mod_chase_69 rfl (lv_at hl 2 rfl) ?_
                  refine gy_ia (z := nI q9) (q := (2, 3, P1)) hx hb hK hW (by omega) rfl (show vp_in _ 32 from vp_in_nI (by omega) (by decide)) (gv_2_3 (by omega)) ((gi_2_3 _).trans (by rw [nI_clamp (by omega)])) ((congrFun h3 P1).trans e9) d_Mod_chase_70 ?_
                  refine lv_istore_n hx hb d_Mod_chase_71 rfl hl (by decide) rfl (fun ls hl => ?_)
                  have hl : lv_has ls 5 [(3, .int (nI q9)), (0, .ref (ad 74)), (2, .int 1), (4, .int (nI k))] := hl
                  refine lv_iinc (v := nI (k + 1)) (k := 3) hx hb d_Mod_chase_72 hl rfl (nI_inc k) (by decide) rfl (fun ls hl => ?_)
                  have hl : lv_has ls 5 [(4, .int (nI (k + 1))), (3, .int (nI q9)), (0, .ref (ad 74)), (2, .int 1)] := hl
                  refine lv_goto (tgt := 5) hx hb d_Mod_chase_75 (by decide) ?_
                  obtain ⟨n', rfl⟩ : ∃ n', n = n' + 1 := ⟨n - 1, by omega⟩
                  have c1 : (a 3 P1).toNatClampNeg = q9 := by rw [e9, nI_clamp (by omega)]
                  obtain ⟨nf2, hnf2, hd2⟩ := sFe_dst hnf hd hP1 hnp
                  exact ih5 (k + 1) n' q9 (sFe a1 P1) nf2 _ _ _ (by omega) hq9 hk2 (by rw [he]; show (if _ then _ else _) = _; rw [if_neg (by rw [hal]; decide), if_neg h38, if_neg h51, c1]) (by rw [hs]; show (if _ then _ else _) = _; rw [if_neg (by rw [h16]; decide), ha3, if_neg (fun q => q.elim h38 h51), c1]) hnf2 hd2 (by omega) (lv_sub hl [2, 3, 1, 0] rfl) hW hS
                · -- 60 f
                  have h60 : hp0 ≤ k := Nat.le_of_not_lt fun q => h60 ((nI_ltI (a := k) (b := hp0) (by omega) (by omega)).mpr q)
                  refine lv_iconst (v := (-1)) hx hb d_Mod_chase_63 (by decide) ?_
                  refine hret (-1) (u, (sFe a1 P1, x, o)) _ _ _ _ ?_ hW hS d_Mod_chase_64
                  refine ⟨?_, ?_⟩
                  · rw [hs]; show _ = (u, (if _ then _ else _, x, o)); rw [if_neg (by rw [h16]; decide), ha3]; first | (rw [if_pos (Or.inr h51)]; done) | (rw [if_neg (fun q => q.elim h38 h51), show n = 0 by omega]; rfl)
                  · rw [he]; show _ = (if _ then _ else _); rw [if_neg (by rw [hal]; decide), if_neg h38]; first | (rw [if_pos h51]; done) | (rw [if_neg h51, show n = 0 by omega]; rfl)
            · -- 38 f
              refine lv_iload_n hx hb d_Mod_chase_41 rfl (lv_at hl 2 rfl) ?_
              refine hret (nI P1) (u, (sFe a1 P1, x, o)) _ _ _ _ ?_ hW hS d_Mod_chase_42
              refine ⟨?_, ?_⟩
              · rw [hs]; show _ = (u, (if _ then _ else _, x, o)); rw [if_neg (by rw [h16]; decide), ha3, if_pos (Or.inl h38)]
              · rw [he]; show _ = (if _ then _ else _); rw [if_neg (by rw [hal]; decide), if_pos h38]
        · -- 16 f
          have h16 : (sAlw a1 P1) = false := bI_0 h16
          refine lv_iconst (v := (-1)) hx hb d_Mod_chase_19 (by decide) ?_
          refine hret (-1) (u, (a1, x, o)) _ _ _ _ ?_ hW hS d_Mod_chase_20
          refine ⟨?_, ?_⟩
          · rw [hs]; show _ = (u, (if _ then _ else _, x, o)); rw [if_pos h16]
          · rw [he]; show _ = (if _ then _ else _); rw [if_pos (by rw [← sAlw_wk hk]; exact h16)]
  exact lp5 _ 0 hp0 P a nf0 _ _ _ (by omega) hP (wk_rf a) rfl rfl hnf0 hd0 (Nat.lt_succ_self _) (lv_sub hl [2, 4, 1, 0] rfl) hW hS
theorem C_Mod_chase1 (l : Launch) {g : gG} {A : Nat → Prop} {ad : Nat → Nat} {np : Nat} {u : gS} {a x : gA} {o : gL} {nm P hp0 : Nat} {nf0 : Nat} (hw : WFw nm a) (hhp : a 0 15 = nI hp0) (hhp4 : hp0 ≤ 4) (hP : P < nm) (hnf0 : a 0 23 = nI nf0) (hd0 : dst (a 14) nf0 nm) : CtI l y_Mod_chase b_Mod_chase 5 .int 2 [.ref (ad 74), .int (nI P), .int 1] g A ad np u (a, x, o) (fun r t => t = (u, (sF2 (hp0 + 1) a P, x, o)) ∧ r = sC2 a (hp0 + 1) P) := mkI (by decide) rfl (Nat.le_of_ble_eq_true rfl) (fun _ _ _ => rfl) (B_Mod_chase1 l hw hhp hhp4 hP hnf0 hd0)

set_option maxHeartbeats 400000 in
set_option maxRecDepth 20000 in
theorem B_Mod_placeInCorpus (l : Launch) {g : gG} {A : Nat → Prop} {ad : Nat → Nat} {np : Nat} {u : gS} {a x : gA} {o : gL} {ng : Nat} {w1 : Int32} (hng : a 0 25 = nI ng) (hng32 : ng ≤ 32) : BdI l b_Mod_placeInCorpus 4 R_Mod 0 [.ref (ad 74), .int w1] g A ad np u (a, x, o) (fun r t => t = (u, (a, x, o)) ∧ (pEq (a 15) w1 ng = true → ¬ r < 0) ∧ (pEq (a 15) w1 ng = false → r = -1)) := by
  intro p e R s m args below meth c Q ls X hW hS hR hl hret
  have hx := X.1.1
  have hb := X.1.2.1
  have hml := X.1.2.2.1
  have hown := X.1.2.2.2.1
  have hts := X.1.2.2.2.2
  have hK := X.2.1
  have hl : lv_has ls 4 [(0, .ref (ad 74)), (1, .int w1)] := hl
  refine lv_iconst (v := (-1)) hx hb d_Mod_placeInCorpus_0 (by decide) ?_
  refine lv_istore_n hx hb d_Mod_placeInCorpus_1 rfl hl (by decide) rfl (fun ls hl => ?_)
  have hl : lv_has ls 4 [(2, .int (-1)), (0, .ref (ad 74)), (1, .int w1)] := hl
  refine lv_iconst (v := 0) hx hb d_Mod_placeInCorpus_2 (by decide) ?_
  refine lv_istore_n hx hb d_Mod_placeInCorpus_3 rfl hl (by decide) rfl (fun ls hl => ?_)
  have hl : lv_has ls 4 [(3, .int 0), (2, .int (-1)), (0, .ref (ad 74)), (1, .int w1)] := hl
  have lp4 : ∀ (fuel : Nat) (i : Nat) (zz : Int32) (ls : Array Slot) (H : Heap) (locs : List Loc), (i ≤ ng) → (pEq (a 15) w1 i = true → ¬ zz < 0) → (pEq (a 15) w1 i = false → zz = -1) → ng - i < fuel → lv_has ls 4 [(0, .ref (ad 74)), (1, .int w1), (2, .int zz), (3, .int (nI i))] → gW g A ad np u (a, x, o) H → va_S A s.heap H locs → W p l e R s m args below meth c H locs 0 0 Q (F0 m 4 ls []) := by
    intro fuel
    induction fuel with
    | zero => intro i zz ls H locs _ _ _ hfu; exact absurd hfu (Nat.not_lt_zero _)
    | succ fuel ih4 =>
      intro i zz ls H locs hi hz1 hz2 hfu hl hW hS
      refine lv_iload_n hx hb d_Mod_placeInCorpus_4 rfl (lv_at hl 3 rfl) ?_
      refine lv_aload_n hx hb d_Mod_placeInCorpus_5 rfl (lv_at hl 0 rfl) ?_
      refine gf_Mod_114 (z := nI ng) X hW  (gv_2_0_25 _) rfl hng d_Mod_placeInCorpus_6 ?_
      refine lv_icmp_ge (tgt := 34) hx hb d_Mod_placeInCorpus_9 (by decide) (fun h9 => ?_) (fun h9 => ?_)
      · -- 9 t
        have h9 : ng ≤ i := (nI_leI (a := ng) (b := i) (by omega) (by omega)).mp h9
        refine lv_iload_n hx hb d_Mod_placeInCorpus_34 rfl (lv_at hl 2 rfl) ?_
        refine hret zz (u, (a, x, o)) _ _ _ _ ?_ hW hS d_Mod_placeInCorpus_35
        rw [show ng = i by omega]
        exact ⟨rfl, hz1, hz2⟩
      · -- 9 f
        have h9 : i < ng := Nat.lt_of_not_le fun q => h9 ((nI_leI (a := ng) (b := i) (by omega) (by omega)).mpr q)
        refine lv_aload_n hx hb d_Mod_placeInCorpus_12 rfl (lv_at hl 0 rfl) ?_
        refine gf_Mod_53 X hW  d_Mod_placeInCorpus_13 ?_
        refine lv_iload_n hx hb d_Mod_placeInCorpus_16 rfl (lv_at hl 3 rfl) ?_
        refine gy_ia (z := a 15 i) (q := (2, 15, i)) hx hb hK hW (by omega) rfl (show vp_in _ 32 from vp_in_nI (by omega) (by decide)) (gv_2_15 (by omega)) ((gi_2_15 _).trans (by rw [nI_clamp (by omega)])) rfl d_Mod_placeInCorpus_17 ?_
        refine lv_iload_n hx hb d_Mod_placeInCorpus_18 rfl (lv_at hl 1 rfl) ?_
        refine lv_icmp_ne (tgt := 26) hx hb d_Mod_placeInCorpus_19 (by decide) (fun h19 => ?_) (fun h19 => ?_)
        · -- 19 t
          refine lv_iload_n hx hb d_Mod_placeInCorpus_26 rfl (lv_at hl 2 rfl) ?_
          refine lv_istore_n hx hb d_Mod_placeInCorpus_27 rfl hl (by decide) rfl (fun ls hl => ?_)
          have hl : lv_has ls 4 [(2, .int zz), (0, .ref (ad 74)), (1, .int w1), (3, .int (nI i))] := hl
          refine lv_iinc (v := nI (i + 1)) (k := 3) hx hb d_Mod_placeInCorpus_28 hl rfl (nI_inc i) (by decide) rfl (fun ls hl => ?_)
          have hl : lv_has ls 4 [(3, .int (nI (i + 1))), (2, .int zz), (0, .ref (ad 74)), (1, .int w1)] := hl
          refine lv_goto (tgt := 4) hx hb d_Mod_placeInCorpus_31 (by decide) ?_
          exact ih4 (i + 1) zz _ _ _ (by omega) (fun q => hz1 (by rw [pEq_s, decide_eq_false h19, Bool.or_false] at q; exact q)) (fun q => hz2 (by rw [pEq_s, decide_eq_false h19, Bool.or_false] at q; exact q)) (by omega) (lv_sub hl [2, 3, 1, 0] rfl) hW hS
        · -- 19 f
          refine lv_iload_n hx hb d_Mod_placeInCorpus_22 rfl (lv_at hl 3 rfl) ?_
          refine lv_goto (tgt := 27) hx hb d_Mod_placeInCorpus_23 (by decide) ?_
          refine lv_istore_n hx hb d_Mod_placeInCorpus_27 rfl hl (by decide) rfl (fun ls hl => ?_)
          have hl : lv_has ls 4 [(2, .int (nI i)), (0, .ref (ad 74)), (1, .int w1), (3, .int (nI i))] := hl
          refine lv_iinc (v := nI (i + 1)) (k := 3) hx hb d_Mod_placeInCorpus_28 hl rfl (nI_inc i) (by decide) rfl (fun ls hl => ?_)
          have hl : lv_has ls 4 [(3, .int (nI (i + 1))), (2, .int (nI i)), (0, .ref (ad 74)), (1, .int w1)] := hl
          refine lv_goto (tgt := 4) hx hb d_Mod_placeInCorpus_31 (by decide) ?_
          exact ih4 (i + 1) (nI i) _ _ _ (by omega) (fun _ => nI_pos (by omega)) (fun q => absurd q (by rw [pEq_s, decide_eq_true h19, Bool.or_true]; decide)) (by omega) (lv_sub hl [2, 3, 1, 0] rfl) hW hS
  exact lp4 _ 0 (-1) _ _ _ (Nat.zero_le _) (fun q => absurd (show false = true from q) (by decide)) (fun _ => rfl) (Nat.lt_succ_self _) (lv_sub hl [2, 3, 1, 0] rfl) hW hS
theorem C_Mod_placeInCorpus (l : Launch) {g : gG} {A : Nat → Prop} {ad : Nat → Nat} {np : Nat} {u : gS} {a x : gA} {o : gL} {ng : Nat} {w1 : Int32} (hng : a 0 25 = nI ng) (hng32 : ng ≤ 32) : CtI l y_Mod_placeInCorpus b_Mod_placeInCorpus 4 .int 0 [.ref (ad 74), .int w1] g A ad np u (a, x, o) (fun r t => t = (u, (a, x, o)) ∧ (pEq (a 15) w1 ng = true → ¬ r < 0) ∧ (pEq (a 15) w1 ng = false → r = -1)) := mkI (by decide) rfl (Nat.le_of_ble_eq_true rfl) (fun _ _ _ => rfl) (B_Mod_placeInCorpus l hng hng32)

set_option maxHeartbeats 400000 in
set_option maxRecDepth 20000 in
theorem B_Mod_queue (l : Launch) {g : gG} {A : Nat → Prop} {ad : Nat → Nat} {np : Nat} {u : gS} {a x : gA} {o : gL} {nm nq q : Nat} {w1 w2 : Int32} (hnp : nm ≤ 32) (hnq : a 0 21 = nI nq) (hd : dst (a 12) nq nm) (hq : q < nm) (hq1 : w1 = nI q) : BdV l b_Mod_queue 4 R_Mod 0 [.ref (ad 74), .int w1, .int w2] g A ad np u (a, x, o) (fun t => t = (u, (sQ a w1 w2, x, o))) := by
  intro p e R s m args below meth c Q ls X hW hS hR hl hret
  have hx := X.1.1
  have hb := X.1.2.1
  have hml := X.1.2.2.1
  have hown := X.1.2.2.2.1
  have hts := X.1.2.2.2.2
  have hK := X.2.1
  have hl : lv_has ls 4 [(0, .ref (ad 74)), (1, .int w1), (2, .int w2)] := hl
  have hnq32 : nq ≤ 32 := Nat.le_trans (dst_le hd hnp) hnp
  refine lv_iconst (v := 0) hx hb d_Mod_queue_0 (by decide) ?_
  refine lv_istore_n hx hb d_Mod_queue_1 rfl hl (by decide) rfl (fun ls hl => ?_)
  have hl : lv_has ls 4 [(3, .int 0), (0, .ref (ad 74)), (1, .int w1), (2, .int w2)] := hl
  have lp2 : ∀ (fuel : Nat) (i : Nat) (ls : Array Slot) (H : Heap) (locs : List Loc), (i ≤ nq) → (pEq (a 12) w1 i = false) → nq - i < fuel → lv_has ls 4 [(0, .ref (ad 74)), (1, .int w1), (2, .int w2), (3, .int (nI i))] → gW g A ad np u (a, x, o) H → va_S A s.heap H locs → W p l e R s m args below meth c H locs 0 0 Q (F0 m 2 ls []) := by
    intro fuel
    induction fuel with
    | zero => intro i ls H locs _ _ hfu; exact absurd hfu (Nat.not_lt_zero _)
    | succ fuel ih2 =>
      intro i ls H locs hi hpe hfu hl hW hS
      refine lv_iload_n hx hb d_Mod_queue_2 rfl (lv_at hl 3 rfl) ?_
      refine lv_aload_n hx hb d_Mod_queue_3 rfl (lv_at hl 0 rfl) ?_
      refine gf_Mod_117 (z := nI nq) X hW  (gv_2_0_21 _) rfl hnq d_Mod_queue_4 ?_
      refine lv_icmp_ge (tgt := 27) hx hb d_Mod_queue_7 (by decide) (fun h7 => ?_) (fun h7 => ?_)
      · -- 7 t
        have h7 : nq ≤ i := (nI_leI (a := nq) (b := i) (by omega) (by omega)).mp h7
        have hpn : pEq (a 12) w1 nq = false := by rw [show nq = i by omega]; exact hpe
        have hr32 : nq < 32 := dst_room hd hq hq1 hpn hnp
        refine lv_aload_n hx hb d_Mod_queue_27 rfl (lv_at hl 0 rfl) ?_
        refine gf_Mod_44 X hW  d_Mod_queue_28 ?_
        refine lv_aload_n hx hb d_Mod_queue_31 rfl (lv_at hl 0 rfl) ?_
        refine gf_Mod_117 (z := nI nq) X hW  (gv_2_0_21 _) rfl hnq d_Mod_queue_32 ?_
        refine lv_iload_n hx hb d_Mod_queue_35 rfl (lv_at hl 1 rfl) ?_
        refine gy_is (z := w1) (q := (2, 12, nq)) hx hb hK hW hS (by omega) rfl (show vp_in _ 32 from vp_in_nI (by omega) (by decide)) (gv_2_12 (by omega)) ((gi_2_12 _).trans (by rw [nI_clamp (by omega)])) d_Mod_queue_36 (fun H locs hW hS => ?_)
        have hW : gW g A ad np u (gu a 12 nq w1, x, o) H := hW
        refine lv_aload_n hx hb d_Mod_queue_37 rfl (lv_at hl 0 rfl) ?_
        refine gf_Mod_47 X hW  d_Mod_queue_38 ?_
        refine lv_aload_n hx hb d_Mod_queue_41 rfl (lv_at hl 0 rfl) ?_
        refine gf_Mod_117 (z := nI nq) X hW  (gv_2_0_21 _) rfl hnq d_Mod_queue_42 ?_
        refine lv_iload_n hx hb d_Mod_queue_45 rfl (lv_at hl 2 rfl) ?_
        refine gy_is (z := w2) (q := (2, 13, nq)) hx hb hK hW hS (by omega) rfl (show vp_in _ 32 from vp_in_nI (by omega) (by decide)) (gv_2_13 (by omega)) ((gi_2_13 _).trans (by rw [nI_clamp (by omega)])) d_Mod_queue_46 (fun H locs hW hS => ?_)
        have hW : gW g A ad np u (gu (gu a 12 nq w1) 13 nq w2, x, o) H := hW
        refine lv_aload_n hx hb d_Mod_queue_47 rfl (lv_at hl 0 rfl) ?_
        refine lv_aload_n hx hb d_Mod_queue_48 rfl (lv_at hl 0 rfl) ?_
        refine gf_Mod_117 (z := nI nq) X hW  (gv_2_0_21 _) rfl hnq d_Mod_queue_49 ?_
        refine lv_iconst (v := 1) hx hb d_Mod_queue_52 (by decide) ?_
        refine lv_iadd hx hb d_Mod_queue_53 ?_
        rw [show (nI nq) + 1 = nI (nq + 1) from nI_1 nq]
        refine pf_Mod_117 (z := nI (nq + 1)) X hW hS  (gv_2_0_21 _) rfl rfl rfl d_Mod_queue_54 (fun H locs hW hS => ?_)
        have hW : gW g A ad np u (gu (gu (gu a 12 nq w1) 13 nq w2) 0 21 (nI (nq + 1)), x, o) H := hW
        refine hret (u, (gu (gu (gu a 12 nq w1) 13 nq w2) 0 21 (nI (nq + 1)), x, o)) _ _ _ _ ?_ hW hS d_Mod_queue_57
        rw [sQ_n hnq (by omega) hpn]
        unfold sQ2
        rw [gu_comm (k := 0) (j := 21) (k' := 13) (by omega)]
      · -- 7 f
        have h7 : i < nq := Nat.lt_of_not_le fun q => h7 ((nI_leI (a := nq) (b := i) (by omega) (by omega)).mpr q)
        refine lv_aload_n hx hb d_Mod_queue_10 rfl (lv_at hl 0 rfl) ?_
        refine gf_Mod_44 X hW  d_Mod_queue_11 ?_
        refine lv_iload_n hx hb d_Mod_queue_14 rfl (lv_at hl 3 rfl) ?_
        refine gy_ia (z := a 12 i) (q := (2, 12, i)) hx hb hK hW (by omega) rfl (show vp_in _ 32 from vp_in_nI (by omega) (by decide)) (gv_2_12 (by omega)) ((gi_2_12 _).trans (by rw [nI_clamp (by omega)])) rfl d_Mod_queue_15 ?_
        refine lv_iload_n hx hb d_Mod_queue_16 rfl (lv_at hl 1 rfl) ?_
        refine lv_icmp_ne (tgt := 21) hx hb d_Mod_queue_17 (by decide) (fun h17 => ?_) (fun h17 => ?_)
        · -- 17 t
          refine lv_iinc (v := nI (i + 1)) (k := 3) hx hb d_Mod_queue_21 hl rfl (nI_inc i) (by decide) rfl (fun ls hl => ?_)
          have hl : lv_has ls 4 [(3, .int (nI (i + 1))), (0, .ref (ad 74)), (1, .int w1), (2, .int w2)] := hl
          refine lv_goto (tgt := 2) hx hb d_Mod_queue_24 (by decide) ?_
          exact ih2 (i + 1) _ _ _ (by omega) (pEq_step hpe h17) (by omega) (lv_sub hl [1, 2, 3, 0] rfl) hW hS
        · -- 17 f
          refine hret (u, (a, x, o)) _ _ _ _ ?_ hW hS d_Mod_queue_20
          rw [sQ_y hnq (by omega) (pEq_hit h17 (show i < nq by omega))]
  exact lp2 _ 0 _ _ _ (Nat.zero_le _) rfl (Nat.lt_succ_self _) (lv_sub hl [1, 2, 3, 0] rfl) hW hS
theorem C_Mod_queue (l : Launch) {g : gG} {A : Nat → Prop} {ad : Nat → Nat} {np : Nat} {u : gS} {a x : gA} {o : gL} {nm nq q : Nat} {w1 w2 : Int32} (hnp : nm ≤ 32) (hnq : a 0 21 = nI nq) (hd : dst (a 12) nq nm) (hq : q < nm) (hq1 : w1 = nI q) : CtV l y_Mod_queue b_Mod_queue 4 0 [.ref (ad 74), .int w1, .int w2] g A ad np u (a, x, o) (fun t => t = (u, (sQ a w1 w2, x, o))) := mkV (by decide) rfl (Nat.le_of_ble_eq_true rfl) (B_Mod_queue l hnp hnq hd hq hq1)

set_option maxHeartbeats 400000 in
set_option maxRecDepth 20000 in
theorem B_Mod_mark (l : Launch) {g : gG} {A : Nat → Prop} {ad : Nat → Nat} {np : Nat} {u : gS} {a x : gA} {o : gL}  : BdV l b_Mod_mark 1 R_Mod 0 [.ref (ad 74)] g A ad np u (a, x, o) (fun t => t = (u, (sMk a, x, o))) := by
  intro p e R s m args below meth c Q ls X hW hS hR hl hret
  have hx := X.1.1
  have hb := X.1.2.1
  have hml := X.1.2.2.1
  have hown := X.1.2.2.2.1
  have hts := X.1.2.2.2.2
  have hK := X.2.1
  have hl : lv_has ls 1 [(0, .ref (ad 74))] := hl
  refine lv_aload_n hx hb d_Mod_mark_0 rfl (lv_at hl 0 rfl) ?_
  refine lv_aload_n hx hb d_Mod_mark_1 rfl (lv_at hl 0 rfl) ?_
  refine gf_Mod_120 (z := a 0 20) X hW  (gv_2_0_20 _) rfl rfl d_Mod_mark_2 ?_
  refine pf_Mod_147 (z := a 0 20) X hW hS  (gv_2_0_29 _) rfl rfl rfl d_Mod_mark_5 (fun H locs hW hS => ?_)
  have hW : gW g A ad np u (gu a 0 29 (a 0 20), x, o) H := hW
  refine lv_aload_n hx hb d_Mod_mark_8 rfl (lv_at hl 0 rfl) ?_
  refine lv_aload_n hx hb d_Mod_mark_9 rfl (lv_at hl 0 rfl) ?_
  refine gf_Mod_117 (z := a 0 21) X hW  (gv_2_0_21 _) rfl rfl d_Mod_mark_10 ?_
  refine pf_Mod_150 (z := a 0 21) X hW hS  (gv_2_0_30 _) rfl rfl rfl d_Mod_mark_13 (fun H locs hW hS => ?_)
  have hW : gW g A ad np u (gu (gu a 0 29 (a 0 20)) 0 30 (a 0 21), x, o) H := hW
  refine lv_aload_n hx hb d_Mod_mark_16 rfl (lv_at hl 0 rfl) ?_
  refine lv_aload_n hx hb d_Mod_mark_17 rfl (lv_at hl 0 rfl) ?_
  refine gf_Mod_89 (z := a 0 23) X hW  (gv_2_0_23 _) rfl rfl d_Mod_mark_18 ?_
  refine pf_Mod_153 (z := a 0 23) X hW hS  (gv_2_0_31 _) rfl rfl rfl d_Mod_mark_21 (fun H locs hW hS => ?_)
  have hW : gW g A ad np u (gu (gu (gu a 0 29 (a 0 20)) 0 30 (a 0 21)) 0 31 (a 0 23), x, o) H := hW
  refine lv_aload_n hx hb d_Mod_mark_24 rfl (lv_at hl 0 rfl) ?_
  refine lv_aload_n hx hb d_Mod_mark_25 rfl (lv_at hl 0 rfl) ?_
  refine gf_Mod_114 (z := a 0 25) X hW  (gv_2_0_25 _) rfl rfl d_Mod_mark_26 ?_
  refine pf_Mod_156 (z := a 0 25) X hW hS  (gv_2_0_32 _) rfl rfl rfl d_Mod_mark_29 (fun H locs hW hS => ?_)
  have hW : gW g A ad np u (gu (gu (gu (gu a 0 29 (a 0 20)) 0 30 (a 0 21)) 0 31 (a 0 23)) 0 32 (a 0 25), x, o) H := hW
  refine lv_aload_n hx hb d_Mod_mark_32 rfl (lv_at hl 0 rfl) ?_
  refine lv_iconst (v := 0) hx hb d_Mod_mark_33 (by decide) ?_
  refine pf_Mod_138 (z := 0) X hW hS  (gv_2_0_33 _) rfl rfl rfl d_Mod_mark_34 (fun H locs hW hS => ?_)
  have hW : gW g A ad np u (gu (gu (gu (gu (gu a 0 29 (a 0 20)) 0 30 (a 0 21)) 0 31 (a 0 23)) 0 32 (a 0 25)) 0 33 0, x, o) H := hW
  refine hret (u, (gu (gu (gu (gu (gu a 0 29 (a 0 20)) 0 30 (a 0 21)) 0 31 (a 0 23)) 0 32 (a 0 25)) 0 33 0, x, o)) _ _ _ _ ?_ hW hS d_Mod_mark_37
  exact rfl
theorem C_Mod_mark (l : Launch) {g : gG} {A : Nat → Prop} {ad : Nat → Nat} {np : Nat} {u : gS} {a x : gA} {o : gL}  : CtV l y_Mod_mark b_Mod_mark 1 0 [.ref (ad 74)] g A ad np u (a, x, o) (fun t => t = (u, (sMk a, x, o))) := mkV (by decide) rfl (Nat.le_of_ble_eq_true rfl) (B_Mod_mark l )

