set_option maxHeartbeats 4000000 in
set_option maxRecDepth 20000 in
theorem B_Host_init (l : Launch) {g : gG} {A : Nat → Prop} {Z : va_W} {h0 : Nat}   : BdN l b_Host_init 1 R_Host 1 2 8 [.ref h0] g A (Z ++ [(h0, .inr (2, [.null, .null, .int 0]))]) (fun Z9 => ∃ q1 : Nat, ∃ q2 : Nat, Z9 = Z ++ [(h0, .inr (2, [.ref q1, .ref q2, .int 0])), (q1, .inl (g.2.1 0, 4, .inl (fun _ => 0))), (q2, .inl (g.2.1 1, 4, .inl (fun _ => 0)))]) := by
  intro p e R s m args below meth c Q ls X hin hW hS hA hO hR hR2 hl hret
  have hx := X.1.1
  have hb := X.1.2.1
  have hml := X.1.2.2.1
  have hown := X.1.2.2.2.1
  have hts := X.1.2.2.2.2
  have hl : lv_has ls 1 [(0, .ref h0)] := hl
  refine lv_aload_n hx hb d_Host_init_0 rfl (lv_at hl 0 rfl) ?_
  refine W.objInit hx hb hown (hts _ wo_Host) (hts _ w_o_inst) (hts _ w_o_code) rfl (by rw [hml]; exact hl.1) rfl d_Host_init_1 (by omega) (Nat.le_trans (Nat.le_of_ble_eq_true rfl : _ ≤ 12) (by omega)) ?_
  refine W.eq (g2 := F0 m 4 ls []) rfl ?_
  refine lv_aload_n hx hb d_Host_init_4 rfl (lv_at hl 0 rfl) ?_
  refine lv_iconst (v := 4) hx hb d_Host_init_5 (by decide) ?_
  refine n_newI X hW hS hA (N := 4) (by decide) (by decide) (by decide) (by omega) (by omega) d_Host_init_6 (fun q1 H hW hS => ?_)
  have hW : nW g A (Z ++ [(h0, .inr (2, [.null, .null, .int 0])), (q1, .inl (g.2.1 0, 4, .inl (fun _ => 0)))]) H := by rw [List.append_assoc] at hW; exact hW
  refine np_Host_9 X hin hW hS 0 rfl (Nat.le_of_ble_eq_true rfl) rfl rfl d_Host_init_8 (fun H locs hW hS => ?_)
  have hW : nW g A (Z ++ [(h0, .inr (2, [.ref q1, .null, .int 0])), (q1, .inl (g.2.1 0, 4, .inl (fun _ => 0)))]) H := hW
  refine lv_aload_n hx hb d_Host_init_11 rfl (lv_at hl 0 rfl) ?_
  refine lv_iconst (v := 4) hx hb d_Host_init_12 (by decide) ?_
  refine n_newZ X hW hS hA (N := 4) (by decide) (by decide) (by decide) (by omega) (by omega) d_Host_init_13 (fun q2 H hW hS => ?_)
  have hW : nW g A (Z ++ [(h0, .inr (2, [.ref q1, .null, .int 0])), (q1, .inl (g.2.1 0, 4, .inl (fun _ => 0))), (q2, .inl (g.2.1 1, 4, .inl (fun _ => 0)))]) H := by rw [List.append_assoc] at hW; exact hW
  refine np_Host_15 X hin hW hS 0 rfl (Nat.le_of_ble_eq_true rfl) rfl rfl d_Host_init_15 (fun H locs hW hS => ?_)
  have hW : nW g A (Z ++ [(h0, .inr (2, [.ref q1, .ref q2, .int 0])), (q1, .inl (g.2.1 0, 4, .inl (fun _ => 0))), (q2, .inl (g.2.1 1, 4, .inl (fun _ => 0)))]) H := hW
  refine lv_aload_n hx hb d_Host_init_18 rfl (lv_at hl 0 rfl) ?_
  refine lv_iconst (v := 0) hx hb d_Host_init_19 (by decide) ?_
  refine np_Host_19 X hin hW hS 0 rfl (Nat.le_of_ble_eq_true rfl) rfl rfl d_Host_init_20 (fun H locs hW hS => ?_)
  have hW : nW g A (Z ++ [(h0, .inr (2, [.ref q1, .ref q2, .int 0])), (q1, .inl (g.2.1 0, 4, .inl (fun _ => 0))), (q2, .inl (g.2.1 1, 4, .inl (fun _ => 0)))]) H := hW
  exact hret _ _ _ _ _ ⟨q1, q2, rfl⟩ hW hS d_Host_init_23
theorem C_Host_init (l : Launch) {g : gG} {A : Nat → Prop} {Z : va_W} {h0 : Nat}   : CtN l y_Host_init b_Host_init 1 1 2 8 [.ref h0] g A (Z ++ [(h0, .inr (2, [.null, .null, .int 0]))]) (fun Z9 => ∃ q1 : Nat, ∃ q2 : Nat, Z9 = Z ++ [(h0, .inr (2, [.ref q1, .ref q2, .int 0])), (q1, .inl (g.2.1 0, 4, .inl (fun _ => 0))), (q2, .inl (g.2.1 1, 4, .inl (fun _ => 0)))]) := mkN (by decide) rfl rfl (Nat.le_of_ble_eq_true rfl) (B_Host_init l )
