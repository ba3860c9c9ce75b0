set_option maxHeartbeats 4000000 in
set_option maxRecDepth 20000 in
theorem B_Gat_init (l : Launch) {g : gG} {A : Nat → Prop} {Z : va_W} {h0 : Nat} {p1 : Nat}  : BdN l b_Gat_init 2 R_Gat 2 9 142 [.ref h0, .ref p1] g A (Z ++ [(h0, .inr (5, [.null, .null, .null, .null, .null, .null, .int 0, .int 0, .int 0, .int 0, .int 0, .int 0, .int 0, .int 0, .int 0, .int 0, .int 0]))]) (fun Z9 => ∃ q1 : Nat, ∃ q2 : Nat, ∃ q3 : Nat, ∃ q4 : Nat, ∃ q5 : Nat, ∃ q6 : Nat, ∃ q7 : Nat, ∃ q8 : Nat, ∃ q9 : Nat, Z9 = Z ++ [(h0, .inr (5, [.ref p1, .ref q1, .ref q3, .ref q5, .ref q7, .ref q9, .int 0, .int 0, .int 0, .int 0, .int 0, .int 0, .int 0, .int 0, .int 0, .int 0, .int 0])), (q1, .inr (3, [.ref q2, .int 0])), (q2, .inl (g.2.1 0, 32, .inl (fun _ => 0))), (q3, .inr (3, [.ref q4, .int 0])), (q4, .inl (g.2.1 0, 32, .inl (fun _ => 0))), (q5, .inr (3, [.ref q6, .int 0])), (q6, .inl (g.2.1 0, 32, .inl (fun _ => 0))), (q7, .inr (3, [.ref q8, .int 0])), (q8, .inl (g.2.1 0, 32, .inl (fun _ => 0))), (q9, .inl (g.2.1 0, 6, .inl (fun _ => 0)))]) := by
  intro p e R s m args below meth c Q ls X hin hW hS hA hO hR hR2 hl hret
  have hx := X.1.1
  have hb := X.1.2.1
  have hml := X.1.2.2.1
  have hown := X.1.2.2.2.1
  have hts := X.1.2.2.2.2
  have hl : lv_has ls 2 [(0, .ref h0), (1, .ref p1)] := hl
  refine lv_aload_n hx hb d_Gat_init_0 rfl (lv_at hl 0 rfl) ?_
  refine W.objInit hx hb hown (hts _ wo_Gat) (hts _ w_o_inst) (hts _ w_o_code) rfl (by rw [hml]; exact hl.1) rfl d_Gat_init_1 (by omega) (Nat.le_trans (Nat.le_of_ble_eq_true rfl : _ ≤ 12) (by omega)) ?_
  refine W.eq (g2 := F0 m 4 ls []) rfl ?_
  refine lv_aload_n hx hb d_Gat_init_4 rfl (lv_at hl 0 rfl) ?_
  refine lv_aload_n hx hb d_Gat_init_5 rfl (lv_at hl 1 rfl) ?_
  refine np_Gat_9 X hin hW hS 0 rfl (Nat.le_of_ble_eq_true rfl) rfl rfl d_Gat_init_6 (fun H locs hW hS => ?_)
  have hW : nW g A (Z ++ [(h0, .inr (5, [.ref p1, .null, .null, .null, .null, .null, .int 0, .int 0, .int 0, .int 0, .int 0, .int 0, .int 0, .int 0, .int 0, .int 0, .int 0]))]) H := hW
  refine lv_aload_n hx hb d_Gat_init_9 rfl (lv_at hl 0 rfl) ?_
  refine nw_Gat_15 X hW hS hA (by omega) (by omega) d_Gat_init_10 (fun q1 H hW hS => ?_)
  have hW : nW g A (Z ++ [(h0, .inr (5, [.ref p1, .null, .null, .null, .null, .null, .int 0, .int 0, .int 0, .int 0, .int 0, .int 0, .int 0, .int 0, .int 0, .int 0, .int 0])), (q1, .inr (3, [.null, .int 0]))]) H := by rw [List.append_assoc] at hW; exact hW
  refine lv_dup hx hb d_Gat_init_13 rfl ?_
  refine lv_bipush (v := 32) hx hb d_Gat_init_14 (by decide) ?_
  have hW : nW g A ((Z ++ [(h0, .inr (5, [.ref p1, .null, .null, .null, .null, .null, .int 0, .int 0, .int 0, .int 0, .int 0, .int 0, .int 0, .int 0, .int 0, .int 0, .int 0]))]) ++ [(q1, .inr (3, [.null, .int 0]))]) H := by rw [List.append_assoc]; exact hW
  refine n_ctor (As := [.int 32]) (rest := [.ref q1, .ref h0]) X ci_Gat_17 (C_Row_init l (h0 := q1) (k0 := 32) (N0 := 32) (by decide) (by decide) (by decide)) hW hS hA hO ⟨by omega, by omega⟩ rfl hl.1 rfl (Nat.le_of_ble_eq_true rfl) d_Gat_init_16 ⟨by omega, by omega⟩ (fun Z9 H locs hp hW hS => ?_)
  obtain ⟨q2, rfl⟩ := hp
  have hW : nW g A (Z ++ [(h0, .inr (5, [.ref p1, .null, .null, .null, .null, .null, .int 0, .int 0, .int 0, .int 0, .int 0, .int 0, .int 0, .int 0, .int 0, .int 0, .int 0])), (q1, .inr (3, [.ref q2, .int 0])), (q2, .inl (g.2.1 0, 32, .inl (fun _ => 0)))]) H := by rw [List.append_assoc] at hW; exact hW
  refine np_Gat_20 X hin hW hS 0 rfl (Nat.le_of_ble_eq_true rfl) rfl rfl d_Gat_init_19 (fun H locs hW hS => ?_)
  have hW : nW g A (Z ++ [(h0, .inr (5, [.ref p1, .ref q1, .null, .null, .null, .null, .int 0, .int 0, .int 0, .int 0, .int 0, .int 0, .int 0, .int 0, .int 0, .int 0, .int 0])), (q1, .inr (3, [.ref q2, .int 0])), (q2, .inl (g.2.1 0, 32, .inl (fun _ => 0)))]) H := hW
  refine lv_aload_n hx hb d_Gat_init_22 rfl (lv_at hl 0 rfl) ?_
  refine nw_Gat_15 X hW hS hA (by omega) (by omega) d_Gat_init_23 (fun q3 H hW hS => ?_)
  have hW : nW g A (Z ++ [(h0, .inr (5, [.ref p1, .ref q1, .null, .null, .null, .null, .int 0, .int 0, .int 0, .int 0, .int 0, .int 0, .int 0, .int 0, .int 0, .int 0, .int 0])), (q1, .inr (3, [.ref q2, .int 0])), (q2, .inl (g.2.1 0, 32, .inl (fun _ => 0))), (q3, .inr (3, [.null, .int 0]))]) H := by rw [List.append_assoc] at hW; exact hW
  refine lv_dup hx hb d_Gat_init_26 rfl ?_
  refine lv_bipush (v := 32) hx hb d_Gat_init_27 (by decide) ?_
  have hW : nW g A ((Z ++ [(h0, .inr (5, [.ref p1, .ref q1, .null, .null, .null, .null, .int 0, .int 0, .int 0, .int 0, .int 0, .int 0, .int 0, .int 0, .int 0, .int 0, .int 0])), (q1, .inr (3, [.ref q2, .int 0])), (q2, .inl (g.2.1 0, 32, .inl (fun _ => 0)))]) ++ [(q3, .inr (3, [.null, .int 0]))]) H := by rw [List.append_assoc]; exact hW
  refine n_ctor (As := [.int 32]) (rest := [.ref q3, .ref h0]) X ci_Gat_17 (C_Row_init l (h0 := q3) (k0 := 32) (N0 := 32) (by decide) (by decide) (by decide)) hW hS hA hO ⟨by omega, by omega⟩ rfl hl.1 rfl (Nat.le_of_ble_eq_true rfl) d_Gat_init_29 ⟨by omega, by omega⟩ (fun Z9 H locs hp hW hS => ?_)
  obtain ⟨q4, rfl⟩ := hp
  have hW : nW g A (Z ++ [(h0, .inr (5, [.ref p1, .ref q1, .null, .null, .null, .null, .int 0, .int 0, .int 0, .int 0, .int 0, .int 0, .int 0, .int 0, .int 0, .int 0, .int 0])), (q1, .inr (3, [.ref q2, .int 0])), (q2, .inl (g.2.1 0, 32, .inl (fun _ => 0))), (q3, .inr (3, [.ref q4, .int 0])), (q4, .inl (g.2.1 0, 32, .inl (fun _ => 0)))]) H := by rw [List.append_assoc] at hW; exact hW
  refine np_Gat_24 X hin hW hS 0 rfl (Nat.le_of_ble_eq_true rfl) rfl rfl d_Gat_init_32 (fun H locs hW hS => ?_)
  have hW : nW g A (Z ++ [(h0, .inr (5, [.ref p1, .ref q1, .ref q3, .null, .null, .null, .int 0, .int 0, .int 0, .int 0, .int 0, .int 0, .int 0, .int 0, .int 0, .int 0, .int 0])), (q1, .inr (3, [.ref q2, .int 0])), (q2, .inl (g.2.1 0, 32, .inl (fun _ => 0))), (q3, .inr (3, [.ref q4, .int 0])), (q4, .inl (g.2.1 0, 32, .inl (fun _ => 0)))]) H := hW
  refine lv_aload_n hx hb d_Gat_init_35 rfl (lv_at hl 0 rfl) ?_
  refine nw_Gat_15 X hW hS hA (by omega) (by omega) d_Gat_init_36 (fun q5 H hW hS => ?_)
  have hW : nW g A (Z ++ [(h0, .inr (5, [.ref p1, .ref q1, .ref q3, .null, .null, .null, .int 0, .int 0, .int 0, .int 0, .int 0, .int 0, .int 0, .int 0, .int 0, .int 0, .int 0])), (q1, .inr (3, [.ref q2, .int 0])), (q2, .inl (g.2.1 0, 32, .inl (fun _ => 0))), (q3, .inr (3, [.ref q4, .int 0])), (q4, .inl (g.2.1 0, 32, .inl (fun _ => 0))), (q5, .inr (3, [.null, .int 0]))]) H := by rw [List.append_assoc] at hW; exact hW
  refine lv_dup hx hb d_Gat_init_39 rfl ?_
  refine lv_bipush (v := 32) hx hb d_Gat_init_40 (by decide) ?_
  have hW : nW g A ((Z ++ [(h0, .inr (5, [.ref p1, .ref q1, .ref q3, .null, .null, .null, .int 0, .int 0, .int 0, .int 0, .int 0, .int 0, .int 0, .int 0, .int 0, .int 0, .int 0])), (q1, .inr (3, [.ref q2, .int 0])), (q2, .inl (g.2.1 0, 32, .inl (fun _ => 0))), (q3, .inr (3, [.ref q4, .int 0])), (q4, .inl (g.2.1 0, 32, .inl (fun _ => 0)))]) ++ [(q5, .inr (3, [.null, .int 0]))]) H := by rw [List.append_assoc]; exact hW
  refine n_ctor (As := [.int 32]) (rest := [.ref q5, .ref h0]) X ci_Gat_17 (C_Row_init l (h0 := q5) (k0 := 32) (N0 := 32) (by decide) (by decide) (by decide)) hW hS hA hO ⟨by omega, by omega⟩ rfl hl.1 rfl (Nat.le_of_ble_eq_true rfl) d_Gat_init_42 ⟨by omega, by omega⟩ (fun Z9 H locs hp hW hS => ?_)
  obtain ⟨q6, rfl⟩ := hp
  have hW : nW g A (Z ++ [(h0, .inr (5, [.ref p1, .ref q1, .ref q3, .null, .null, .null, .int 0, .int 0, .int 0, .int 0, .int 0, .int 0, .int 0, .int 0, .int 0, .int 0, .int 0])), (q1, .inr (3, [.ref q2, .int 0])), (q2, .inl (g.2.1 0, 32, .inl (fun _ => 0))), (q3, .inr (3, [.ref q4, .int 0])), (q4, .inl (g.2.1 0, 32, .inl (fun _ => 0))), (q5, .inr (3, [.ref q6, .int 0])), (q6, .inl (g.2.1 0, 32, .inl (fun _ => 0)))]) H := by rw [List.append_assoc] at hW; exact hW
  refine np_Gat_27 X hin hW hS 0 rfl (Nat.le_of_ble_eq_true rfl) rfl rfl d_Gat_init_45 (fun H locs hW hS => ?_)
  have hW : nW g A (Z ++ [(h0, .inr (5, [.ref p1, .ref q1, .ref q3, .ref q5, .null, .null, .int 0, .int 0, .int 0, .int 0, .int 0, .int 0, .int 0, .int 0, .int 0, .int 0, .int 0])), (q1, .inr (3, [.ref q2, .int 0])), (q2, .inl (g.2.1 0, 32, .inl (fun _ => 0))), (q3, .inr (3, [.ref q4, .int 0])), (q4, .inl (g.2.1 0, 32, .inl (fun _ => 0))), (q5, .inr (3, [.ref q6, .int 0])), (q6, .inl (g.2.1 0, 32, .inl (fun _ => 0)))]) H := hW
  refine lv_aload_n hx hb d_Gat_init_48 rfl (lv_at hl 0 rfl) ?_
  refine nw_Gat_15 X hW hS hA (by omega) (by omega) d_Gat_init_49 (fun q7 H hW hS => ?_)
  have hW : nW g A (Z ++ [(h0, .inr (5, [.ref p1, .ref q1, .ref q3, .ref q5, .null, .null, .int 0, .int 0, .int 0, .int 0, .int 0, .int 0, .int 0, .int 0, .int 0, .int 0, .int 0])), (q1, .inr (3, [.ref q2, .int 0])), (q2, .inl (g.2.1 0, 32, .inl (fun _ => 0))), (q3, .inr (3, [.ref q4, .int 0])), (q4, .inl (g.2.1 0, 32, .inl (fun _ => 0))), (q5, .inr (3, [.ref q6, .int 0])), (q6, .inl (g.2.1 0, 32, .inl (fun _ => 0))), (q7, .inr (3, [.null, .int 0]))]) H := by rw [List.append_assoc] at hW; exact hW
  refine lv_dup hx hb d_Gat_init_52 rfl ?_
  refine lv_bipush (v := 32) hx hb d_Gat_init_53 (by decide) ?_
  have hW : nW g A ((Z ++ [(h0, .inr (5, [.ref p1, .ref q1, .ref q3, .ref q5, .null, .null, .int 0, .int 0, .int 0, .int 0, .int 0, .int 0, .int 0, .int 0, .int 0, .int 0, .int 0])), (q1, .inr (3, [.ref q2, .int 0])), (q2, .inl (g.2.1 0, 32, .inl (fun _ => 0))), (q3, .inr (3, [.ref q4, .int 0])), (q4, .inl (g.2.1 0, 32, .inl (fun _ => 0))), (q5, .inr (3, [.ref q6, .int 0])), (q6, .inl (g.2.1 0, 32, .inl (fun _ => 0)))]) ++ [(q7, .inr (3, [.null, .int 0]))]) H := by rw [List.append_assoc]; exact hW
  refine n_ctor (As := [.int 32]) (rest := [.ref q7, .ref h0]) X ci_Gat_17 (C_Row_init l (h0 := q7) (k0 := 32) (N0 := 32) (by decide) (by decide) (by decide)) hW hS hA hO ⟨by omega, by omega⟩ rfl hl.1 rfl (Nat.le_of_ble_eq_true rfl) d_Gat_init_55 ⟨by omega, by omega⟩ (fun Z9 H locs hp hW hS => ?_)
  obtain ⟨q8, rfl⟩ := hp
  have hW : nW g A (Z ++ [(h0, .inr (5, [.ref p1, .ref q1, .ref q3, .ref q5, .null, .null, .int 0, .int 0, .int 0, .int 0, .int 0, .int 0, .int 0, .int 0, .int 0, .int 0, .int 0])), (q1, .inr (3, [.ref q2, .int 0])), (q2, .inl (g.2.1 0, 32, .inl (fun _ => 0))), (q3, .inr (3, [.ref q4, .int 0])), (q4, .inl (g.2.1 0, 32, .inl (fun _ => 0))), (q5, .inr (3, [.ref q6, .int 0])), (q6, .inl (g.2.1 0, 32, .inl (fun _ => 0))), (q7, .inr (3, [.ref q8, .int 0])), (q8, .inl (g.2.1 0, 32, .inl (fun _ => 0)))]) H := by rw [List.append_assoc] at hW; exact hW
  refine np_Gat_30 X hin hW hS 0 rfl (Nat.le_of_ble_eq_true rfl) rfl rfl d_Gat_init_58 (fun H locs hW hS => ?_)
  have hW : nW g A (Z ++ [(h0, .inr (5, [.ref p1, .ref q1, .ref q3, .ref q5, .ref q7, .null, .int 0, .int 0, .int 0, .int 0, .int 0, .int 0, .int 0, .int 0, .int 0, .int 0, .int 0])), (q1, .inr (3, [.ref q2, .int 0])), (q2, .inl (g.2.1 0, 32, .inl (fun _ => 0))), (q3, .inr (3, [.ref q4, .int 0])), (q4, .inl (g.2.1 0, 32, .inl (fun _ => 0))), (q5, .inr (3, [.ref q6, .int 0])), (q6, .inl (g.2.1 0, 32, .inl (fun _ => 0))), (q7, .inr (3, [.ref q8, .int 0])), (q8, .inl (g.2.1 0, 32, .inl (fun _ => 0)))]) H := hW
  refine lv_aload_n hx hb d_Gat_init_61 rfl (lv_at hl 0 rfl) ?_
  refine lv_bipush (v := 6) hx hb d_Gat_init_62 (by decide) ?_
  refine n_newI X hW hS hA (N := 6) (by decide) (by decide) (by decide) (by omega) (by omega) d_Gat_init_64 (fun q9 H hW hS => ?_)
  have hW : nW g A (Z ++ [(h0, .inr (5, [.ref p1, .ref q1, .ref q3, .ref q5, .ref q7, .null, .int 0, .int 0, .int 0, .int 0, .int 0, .int 0, .int 0, .int 0, .int 0, .int 0, .int 0])), (q1, .inr (3, [.ref q2, .int 0])), (q2, .inl (g.2.1 0, 32, .inl (fun _ => 0))), (q3, .inr (3, [.ref q4, .int 0])), (q4, .inl (g.2.1 0, 32, .inl (fun _ => 0))), (q5, .inr (3, [.ref q6, .int 0])), (q6, .inl (g.2.1 0, 32, .inl (fun _ => 0))), (q7, .inr (3, [.ref q8, .int 0])), (q8, .inl (g.2.1 0, 32, .inl (fun _ => 0))), (q9, .inl (g.2.1 0, 6, .inl (fun _ => 0)))]) H := by rw [List.append_assoc] at hW; exact hW
  refine np_Gat_33 X hin hW hS 0 rfl (Nat.le_of_ble_eq_true rfl) rfl rfl d_Gat_init_66 (fun H locs hW hS => ?_)
  have hW : nW g A (Z ++ [(h0, .inr (5, [.ref p1, .ref q1, .ref q3, .ref q5, .ref q7, .ref q9, .int 0, .int 0, .int 0, .int 0, .int 0, .int 0, .int 0, .int 0, .int 0, .int 0, .int 0])), (q1, .inr (3, [.ref q2, .int 0])), (q2, .inl (g.2.1 0, 32, .inl (fun _ => 0))), (q3, .inr (3, [.ref q4, .int 0])), (q4, .inl (g.2.1 0, 32, .inl (fun _ => 0))), (q5, .inr (3, [.ref q6, .int 0])), (q6, .inl (g.2.1 0, 32, .inl (fun _ => 0))), (q7, .inr (3, [.ref q8, .int 0])), (q8, .inl (g.2.1 0, 32, .inl (fun _ => 0))), (q9, .inl (g.2.1 0, 6, .inl (fun _ => 0)))]) H := hW
  exact hret _ _ _ _ _ ⟨q1, q2, q3, q4, q5, q6, q7, q8, q9, rfl⟩ hW hS d_Gat_init_69
theorem C_Gat_init (l : Launch) {g : gG} {A : Nat → Prop} {Z : va_W} {h0 : Nat} {p1 : Nat}  : CtN l y_Gat_init b_Gat_init 2 2 9 142 [.ref h0, .ref p1] g A (Z ++ [(h0, .inr (5, [.null, .null, .null, .null, .null, .null, .int 0, .int 0, .int 0, .int 0, .int 0, .int 0, .int 0, .int 0, .int 0, .int 0, .int 0]))]) (fun Z9 => ∃ q1 : Nat, ∃ q2 : Nat, ∃ q3 : Nat, ∃ q4 : Nat, ∃ q5 : Nat, ∃ q6 : Nat, ∃ q7 : Nat, ∃ q8 : Nat, ∃ q9 : Nat, Z9 = Z ++ [(h0, .inr (5, [.ref p1, .ref q1, .ref q3, .ref q5, .ref q7, .ref q9, .int 0, .int 0, .int 0, .int 0, .int 0, .int 0, .int 0, .int 0, .int 0, .int 0, .int 0])), (q1, .inr (3, [.ref q2, .int 0])), (q2, .inl (g.2.1 0, 32, .inl (fun _ => 0))), (q3, .inr (3, [.ref q4, .int 0])), (q4, .inl (g.2.1 0, 32, .inl (fun _ => 0))), (q5, .inr (3, [.ref q6, .int 0])), (q6, .inl (g.2.1 0, 32, .inl (fun _ => 0))), (q7, .inr (3, [.ref q8, .int 0])), (q8, .inl (g.2.1 0, 32, .inl (fun _ => 0))), (q9, .inl (g.2.1 0, 6, .inl (fun _ => 0)))]) := mkN (by decide) rfl rfl (Nat.le_of_ble_eq_true rfl) (B_Gat_init l )
