set_option maxHeartbeats 1000000 in
set_option maxRecDepth 20000 in
theorem LC_crash (l : Launch) {p : Program} {e : Env} {s : State} {m : MethodId} {args : Array Value} {below : List Frame} {meth : Method} {c : Code} {H : Heap} {locs : List Loc} {cells slots : Nat} {Q : State → Prop} {ls : Array Slot} {g : gG} {A : Nat → Prop} {b L i h1 h2 : Nat} {xs : Nat → Int32} (X : gcx g A p s m args c code 4 "PoliteGathererLaw") (hXs : va_X b L xs s s.heap) (hbl : b < s.heap.size) (hbA : ¬ A b) (hA : ∀ q, s.heap.size ≤ q → A q) (hO : nO s) (hI : lI g A h1 h2 H) (hS : va_S A s.heap H locs) (hl : lv_has ls 4 [(0, .ref b), (1, .ref h1), (2, .ref h2), (3, .int (nI i))]) (hi : i + 5 ≤ L) (hL : L ≤ 2560) (hc : cells + 5 ≤ 600000) (hs : slots + 25 ≤ 7302250)
    (kk : ∀ (H1 : Heap) (locs1 : List Loc), lI g A h1 h2 H1 → va_S A s.heap H1 locs1 → W p l e room_1 s m args below meth c H1 locs1 (cells + 5) (slots + 25) Q (F0 m 675 ls [])) : W p l e room_1 s m args below meth c H locs cells slots Q (F0 m 454 ls []) := by
  have hx := X.1.1
  have hb := X.1.2.1
  have hK := X.2.1
  obtain ⟨ad, np, a, x, o, xm, om, rfl, rfl, hW, hI⟩ := hI
  refine lv_aload_n hx hb d_Law_454 rfl (lv_at hl 1 rfl) ?_
  refine gc_iV (b := ad 0) (As := []) (rest := []) X cw_Law_60 (C_PG_crash l hI.1.1 hI.2.2 hI.2.1) hW hS (gW_recv (ci := 0) (fs := gf0 ad) hK hW (by omega) (fun σ τ => ge_0 rfl σ τ) (r := (R_PG, F_PG, 4)) rfl) ⟨Nat.le_of_ble_eq_true rfl, Nat.le_of_ble_eq_true rfl⟩ rfl hl.1 rfl (Nat.le_of_ble_eq_true rfl) d_Law_455 ⟨(show cells + 0 ≤ 600000 by omega), (show slots + 0 ≤ 7302250 by omega)⟩ (fun r t H locs hp9 hW hS => ?_)
  obtain ⟨x1, o1, rfl, rfl, hI1⟩ : ∃ x1 o1, t = (((sCra a), x1, o1), (a, xm, om)) ∧ r = (rCr a) ∧ gI np (sCra a) x1 := by obtain ⟨h1, x1, h2, h3⟩ := hp9; exact ⟨x1, o, h2, h1, gI_C hI.1 hI.2.1 h3⟩
  have hW : gW g A ad np ((sCra a), x1, o1) (a, xm, om) H := hW
  refine lv_aload_n hx hb d_Law_458 rfl (lv_at hl 2 rfl) ?_
  refine gc_iV (b := ad 74) (As := []) (rest := [.int (rCr a)]) X cw_Law_64 (C_Mod_crash l ) hW hS (gW_recv (ci := 7) (fs := gf7 ad) hK hW (by omega) (fun σ τ => ge_7 rfl σ τ) (r := (R_Mod, F_Mod, 37)) rfl) ⟨Nat.le_of_ble_eq_true rfl, Nat.le_of_ble_eq_true rfl⟩ rfl hl.1 rfl (Nat.le_of_ble_eq_true rfl) d_Law_459 ⟨(show cells + 0 ≤ 600000 by omega), (show slots + 0 ≤ 7302250 by omega)⟩ (fun r t H locs hp8 hW hS => ?_)
  obtain ⟨x2, o2, rfl, rfl⟩ : ∃ x2 o2, t = (((sCra a), x1, o1), ((sCra a), x2, o2)) ∧ r = (rCr a) := ⟨xm, om, hp8.2, hp8.1⟩
  have hW : gW g A ad np ((sCra a), x1, o1) ((sCra a), x2, o2) H := hW
  refine lv_icmp_eq (tgt := 675) hx hb d_Law_462 (by decide) (fun h => ?_) (fun h => absurd rfl h)
  exact W.widen (by omega) (by omega) (kk _ _ ⟨ad, np, _, _, _, _, _, rfl, rfl, hW, hI1⟩ hS)
set_option maxHeartbeats 1000000 in
set_option maxRecDepth 20000 in
theorem LC_allowed (l : Launch) {p : Program} {e : Env} {s : State} {m : MethodId} {args : Array Value} {below : List Frame} {meth : Method} {c : Code} {H : Heap} {locs : List Loc} {cells slots : Nat} {Q : State → Prop} {ls : Array Slot} {g : gG} {A : Nat → Prop} {b L i h1 h2 : Nat} {xs : Nat → Int32} (X : gcx g A p s m args c code 4 "PoliteGathererLaw") (hXs : va_X b L xs s s.heap) (hbl : b < s.heap.size) (hbA : ¬ A b) (hA : ∀ q, s.heap.size ≤ q → A q) (hO : nO s) (hI : lI g A h1 h2 H) (hS : va_S A s.heap H locs) (hl : lv_has ls 4 [(0, .ref b), (1, .ref h1), (2, .ref h2), (3, .int (nI i))]) (hi : i + 5 ≤ L) (hL : L ≤ 2560) (hc : cells + 5 ≤ 600000) (hs : slots + 25 ≤ 7302250)
    (kk : ∀ (H1 : Heap) (locs1 : List Loc), lI g A h1 h2 H1 → va_S A s.heap H1 locs1 → W p l e room_1 s m args below meth c H1 locs1 (cells + 5) (slots + 25) Q (F0 m 675 ls [])) : W p l e room_1 s m args below meth c H locs cells slots Q (F0 m 467 ls []) := by
  have hx := X.1.1
  have hb := X.1.2.1
  have hK := X.2.1
  obtain ⟨ad, np, a, x, o, xm, om, rfl, rfl, hW, hI⟩ := hI
  refine lv_aload_n hx hb d_Law_467 rfl (lv_at hl 1 rfl) ?_
  refine lv_aload_n hx hb d_Law_468 rfl (lv_at hl 0 rfl) ?_
  refine lv_iload_n hx hb d_Law_469 rfl (lv_at hl 3 rfl) ?_
  refine lv_iconst (v := 1) hx hb d_Law_470 (by decide) ?_
  refine lv_iadd hx hb d_Law_471 ?_
  refine va_sld hx hb hXs hbl hbA hS (lw_in (nI_p1 i) (by omega) hL) d_Law_472 ?_
  refine gc_iV (b := ad 0) (As := [.int (xs (nI i + 1).toNatClampNeg)]) (rest := []) X cw_Law_65 (C_PG_allowed l hI.1) hW hS (gW_recv (ci := 0) (fs := gf0 ad) hK hW (by omega) (fun σ τ => ge_0 rfl σ τ) (r := (R_PG, F_PG, 4)) rfl) ⟨Nat.le_of_ble_eq_true rfl, Nat.le_of_ble_eq_true rfl⟩ rfl hl.1 rfl (Nat.le_of_ble_eq_true rfl) d_Law_473 ⟨(show cells + 0 ≤ 600000 by omega), (show slots + 0 ≤ 7302250 by omega)⟩ (fun r t H locs hp9 hW hS => ?_)
  obtain ⟨x1, o1, rfl, rfl, hI1⟩ : ∃ x1 o1, t = ((a, x1, o1), (a, xm, om)) ∧ r = (bI (sIs a (xs (nI i + 1).toNatClampNeg) && sAlw a (Int32.toNatClampNeg (xs (nI i + 1).toNatClampNeg)))) ∧ gI np a x1 := ⟨x, o, hp9.1, hp9.2, hI⟩
  have hW : gW g A ad np (a, x1, o1) (a, xm, om) H := hW
  refine lv_aload_n hx hb d_Law_476 rfl (lv_at hl 2 rfl) ?_
  refine lv_aload_n hx hb d_Law_477 rfl (lv_at hl 0 rfl) ?_
  refine lv_iload_n hx hb d_Law_478 rfl (lv_at hl 3 rfl) ?_
  refine lv_iconst (v := 1) hx hb d_Law_479 (by decide) ?_
  refine lv_iadd hx hb d_Law_480 ?_
  refine va_sld hx hb hXs hbl hbA hS (lw_in (nI_p1 i) (by omega) hL) d_Law_481 ?_
  refine gc_iV (b := ad 74) (As := [.int (xs (nI i + 1).toNatClampNeg)]) (rest := [.int (bI (sIs a (xs (nI i + 1).toNatClampNeg) && sAlw a (Int32.toNatClampNeg (xs (nI i + 1).toNatClampNeg))))]) X cw_Law_68 (C_Mod_allowed l hI.1) hW hS (gW_recv (ci := 7) (fs := gf7 ad) hK hW (by omega) (fun σ τ => ge_7 rfl σ τ) (r := (R_Mod, F_Mod, 37)) rfl) ⟨Nat.le_of_ble_eq_true rfl, Nat.le_of_ble_eq_true rfl⟩ rfl hl.1 rfl (Nat.le_of_ble_eq_true rfl) d_Law_482 ⟨(show cells + 0 ≤ 600000 by omega), (show slots + 0 ≤ 7302250 by omega)⟩ (fun r t H locs hp8 hW hS => ?_)
  obtain ⟨x2, o2, rfl, rfl⟩ : ∃ x2 o2, t = ((a, x1, o1), (a, x2, o2)) ∧ r = (bI (sIs a (xs (nI i + 1).toNatClampNeg) && sAlw a (Int32.toNatClampNeg (xs (nI i + 1).toNatClampNeg)))) := ⟨xm, om, hp8.1, hp8.2⟩
  have hW : gW g A ad np (a, x1, o1) (a, x2, o2) H := hW
  refine lv_icmp_eq (tgt := 675) hx hb d_Law_485 (by decide) (fun h => ?_) (fun h => absurd rfl h)
  exact W.widen (by omega) (by omega) (kk _ _ ⟨ad, np, _, _, _, _, _, rfl, rfl, hW, hI1⟩ hS)
set_option maxHeartbeats 1000000 in
set_option maxRecDepth 20000 in
theorem LC_found (l : Launch) {p : Program} {e : Env} {s : State} {m : MethodId} {args : Array Value} {below : List Frame} {meth : Method} {c : Code} {H : Heap} {locs : List Loc} {cells slots : Nat} {Q : State → Prop} {ls : Array Slot} {g : gG} {A : Nat → Prop} {b L i h1 h2 : Nat} {xs : Nat → Int32} (X : gcx g A p s m args c code 4 "PoliteGathererLaw") (hXs : va_X b L xs s s.heap) (hbl : b < s.heap.size) (hbA : ¬ A b) (hA : ∀ q, s.heap.size ≤ q → A q) (hO : nO s) (hI : lI g A h1 h2 H) (hS : va_S A s.heap H locs) (hl : lv_has ls 4 [(0, .ref b), (1, .ref h1), (2, .ref h2), (3, .int (nI i))]) (hi : i + 5 ≤ L) (hL : L ≤ 2560) (hc : cells + 5 ≤ 600000) (hs : slots + 25 ≤ 7302250)
    (kk : ∀ (H1 : Heap) (locs1 : List Loc), lI g A h1 h2 H1 → va_S A s.heap H1 locs1 → W p l e room_1 s m args below meth c H1 locs1 (cells + 5) (slots + 25) Q (F0 m 675 ls [])) : W p l e room_1 s m args below meth c H locs cells slots Q (F0 m 490 ls []) := by
  have hx := X.1.1
  have hb := X.1.2.1
  have hK := X.2.1
  obtain ⟨ad, np, a, x, o, xm, om, rfl, rfl, hW, hI⟩ := hI
  refine lv_aload_n hx hb d_Law_490 rfl (lv_at hl 1 rfl) ?_
  refine lv_aload_n hx hb d_Law_491 rfl (lv_at hl 0 rfl) ?_
  refine lv_iload_n hx hb d_Law_492 rfl (lv_at hl 3 rfl) ?_
  refine lv_iconst (v := 1) hx hb d_Law_493 (by decide) ?_
  refine lv_iadd hx hb d_Law_494 ?_
  refine va_sld hx hb hXs hbl hbA hS (lw_in (nI_p1 i) (by omega) hL) d_Law_495 ?_
  refine gc_iV (b := ad 0) (As := [.int (xs (nI i + 1).toNatClampNeg)]) (rest := []) X cw_Law_69 (C_PG_found l hI.1 hI.2.2 hI.2.1) hW hS (gW_recv (ci := 0) (fs := gf0 ad) hK hW (by omega) (fun σ τ => ge_0 rfl σ τ) (r := (R_PG, F_PG, 4)) rfl) ⟨Nat.le_of_ble_eq_true rfl, Nat.le_of_ble_eq_true rfl⟩ rfl hl.1 rfl (Nat.le_of_ble_eq_true rfl) d_Law_496 ⟨(show cells + 0 ≤ 600000 by omega), (show slots + 0 ≤ 7302250 by omega)⟩ (fun r t H locs hp9 hW hS => ?_)
  obtain ⟨x1, o1, rfl, rfl, hI1⟩ : ∃ x1 o1, t = ((a, x1, o1), (a, xm, om)) ∧ r = (rFo a (xs (nI i + 1).toNatClampNeg)) ∧ gI np a x1 := ⟨x, o, hp9.1, hp9.2, hI⟩
  have hW : gW g A ad np (a, x1, o1) (a, xm, om) H := hW
  refine lv_aload_n hx hb d_Law_499 rfl (lv_at hl 2 rfl) ?_
  refine lv_aload_n hx hb d_Law_500 rfl (lv_at hl 0 rfl) ?_
  refine lv_iload_n hx hb d_Law_501 rfl (lv_at hl 3 rfl) ?_
  refine lv_iconst (v := 1) hx hb d_Law_502 (by decide) ?_
  refine lv_iadd hx hb d_Law_503 ?_
  refine va_sld hx hb hXs hbl hbA hS (lw_in (nI_p1 i) (by omega) hL) d_Law_504 ?_
  refine gc_iV (b := ad 74) (As := [.int (xs (nI i + 1).toNatClampNeg)]) (rest := [.int (rFo a (xs (nI i + 1).toNatClampNeg))]) X cw_Law_72 (C_Mod_found l hI.1 hI.2.1) hW hS (gW_recv (ci := 7) (fs := gf7 ad) hK hW (by omega) (fun σ τ => ge_7 rfl σ τ) (r := (R_Mod, F_Mod, 37)) rfl) ⟨Nat.le_of_ble_eq_true rfl, Nat.le_of_ble_eq_true rfl⟩ rfl hl.1 rfl (Nat.le_of_ble_eq_true rfl) d_Law_505 ⟨(show cells + 0 ≤ 600000 by omega), (show slots + 0 ≤ 7302250 by omega)⟩ (fun r t H locs hp8 hW hS => ?_)
  obtain ⟨x2, o2, rfl, rfl⟩ : ∃ x2 o2, t = ((a, x1, o1), (a, x2, o2)) ∧ r = (rFo a (xs (nI i + 1).toNatClampNeg)) := ⟨xm, om, hp8.1, hp8.2⟩
  have hW : gW g A ad np (a, x1, o1) (a, x2, o2) H := hW
  refine lv_icmp_eq (tgt := 675) hx hb d_Law_508 (by decide) (fun h => ?_) (fun h => absurd rfl h)
  exact W.widen (by omega) (by omega) (kk _ _ ⟨ad, np, _, _, _, _, _, rfl, rfl, hW, hI1⟩ hS)
set_option maxHeartbeats 1000000 in
set_option maxRecDepth 20000 in
theorem LC_clock (l : Launch) {p : Program} {e : Env} {s : State} {m : MethodId} {args : Array Value} {below : List Frame} {meth : Method} {c : Code} {H : Heap} {locs : List Loc} {cells slots : Nat} {Q : State → Prop} {ls : Array Slot} {g : gG} {A : Nat → Prop} {b L i h1 h2 : Nat} {xs : Nat → Int32} (X : gcx g A p s m args c code 4 "PoliteGathererLaw") (hXs : va_X b L xs s s.heap) (hbl : b < s.heap.size) (hbA : ¬ A b) (hA : ∀ q, s.heap.size ≤ q → A q) (hO : nO s) (hI : lI g A h1 h2 H) (hS : va_S A s.heap H locs) (hl : lv_has ls 4 [(0, .ref b), (1, .ref h1), (2, .ref h2), (3, .int (nI i))]) (hi : i + 5 ≤ L) (hL : L ≤ 2560) (hc : cells + 5 ≤ 600000) (hs : slots + 25 ≤ 7302250)
    (kk : ∀ (H1 : Heap) (locs1 : List Loc), lI g A h1 h2 H1 → va_S A s.heap H1 locs1 → W p l e room_1 s m args below meth c H1 locs1 (cells + 5) (slots + 25) Q (F0 m 675 ls [])) : W p l e room_1 s m args below meth c H locs cells slots Q (F0 m 513 ls []) := by
  have hx := X.1.1
  have hb := X.1.2.1
  have hK := X.2.1
  obtain ⟨ad, np, a, x, o, xm, om, rfl, rfl, hW, hI⟩ := hI
  refine lv_aload_n hx hb d_Law_513 rfl (lv_at hl 1 rfl) ?_
  refine gc_iV (b := ad 0) (As := []) (rest := []) X cw_Law_73 (C_PG_clock l ) hW hS (gW_recv (ci := 0) (fs := gf0 ad) hK hW (by omega) (fun σ τ => ge_0 rfl σ τ) (r := (R_PG, F_PG, 4)) rfl) ⟨Nat.le_of_ble_eq_true rfl, Nat.le_of_ble_eq_true rfl⟩ rfl hl.1 rfl (Nat.le_of_ble_eq_true rfl) d_Law_514 ⟨(show cells + 0 ≤ 600000 by omega), (show slots + 0 ≤ 7302250 by omega)⟩ (fun r t H locs hp9 hW hS => ?_)
  obtain ⟨x1, o1, rfl, rfl, hI1⟩ : ∃ x1 o1, t = ((a, x1, o1), (a, xm, om)) ∧ r = (if a 0 13 = 0 then 0 else a 0 26) ∧ gI np a x1 := ⟨x, o, hp9.1, hp9.2, hI⟩
  have hW : gW g A ad np (a, x1, o1) (a, xm, om) H := hW
  refine lv_aload_n hx hb d_Law_517 rfl (lv_at hl 2 rfl) ?_
  refine gc_iV (b := ad 74) (As := []) (rest := [.int (if a 0 13 = 0 then 0 else a 0 26)]) X cw_Law_76 (C_Mod_clock l ) hW hS (gW_recv (ci := 7) (fs := gf7 ad) hK hW (by omega) (fun σ τ => ge_7 rfl σ τ) (r := (R_Mod, F_Mod, 37)) rfl) ⟨Nat.le_of_ble_eq_true rfl, Nat.le_of_ble_eq_true rfl⟩ rfl hl.1 rfl (Nat.le_of_ble_eq_true rfl) d_Law_518 ⟨(show cells + 0 ≤ 600000 by omega), (show slots + 0 ≤ 7302250 by omega)⟩ (fun r t H locs hp8 hW hS => ?_)
  obtain ⟨x2, o2, rfl, rfl⟩ : ∃ x2 o2, t = ((a, x1, o1), (a, x2, o2)) ∧ r = (if a 0 13 = 0 then 0 else a 0 26) := ⟨xm, om, hp8.1, hp8.2⟩
  have hW : gW g A ad np (a, x1, o1) (a, x2, o2) H := hW
  refine lv_icmp_eq (tgt := 675) hx hb d_Law_521 (by decide) (fun h => ?_) (fun h => absurd rfl h)
  exact W.widen (by omega) (by omega) (kk _ _ ⟨ad, np, _, _, _, _, _, rfl, rfl, hW, hI1⟩ hS)
set_option maxHeartbeats 1000000 in
set_option maxRecDepth 20000 in
theorem LC_fetches (l : Launch) {p : Program} {e : Env} {s : State} {m : MethodId} {args : Array Value} {below : List Frame} {meth : Method} {c : Code} {H : Heap} {locs : List Loc} {cells slots : Nat} {Q : State → Prop} {ls : Array Slot} {g : gG} {A : Nat → Prop} {b L i h1 h2 : Nat} {xs : Nat → Int32} (X : gcx g A p s m args c code 4 "PoliteGathererLaw") (hXs : va_X b L xs s s.heap) (hbl : b < s.heap.size) (hbA : ¬ A b) (hA : ∀ q, s.heap.size ≤ q → A q) (hO : nO s) (hI : lI g A h1 h2 H) (hS : va_S A s.heap H locs) (hl : lv_has ls 4 [(0, .ref b), (1, .ref h1), (2, .ref h2), (3, .int (nI i))]) (hi : i + 5 ≤ L) (hL : L ≤ 2560) (hc : cells + 5 ≤ 600000) (hs : slots + 25 ≤ 7302250)
    (kk : ∀ (H1 : Heap) (locs1 : List Loc), lI g A h1 h2 H1 → va_S A s.heap H1 locs1 → W p l e room_1 s m args below meth c H1 locs1 (cells + 5) (slots + 25) Q (F0 m 675 ls [])) : W p l e room_1 s m args below meth c H locs cells slots Q (F0 m 526 ls []) := by
  have hx := X.1.1
  have hb := X.1.2.1
  have hK := X.2.1
  obtain ⟨ad, np, a, x, o, xm, om, rfl, rfl, hW, hI⟩ := hI
  refine lv_aload_n hx hb d_Law_526 rfl (lv_at hl 1 rfl) ?_
  refine gc_iV (b := ad 0) (As := []) (rest := []) X cw_Law_77 (C_PG_fetches l ) hW hS (gW_recv (ci := 0) (fs := gf0 ad) hK hW (by omega) (fun σ τ => ge_0 rfl σ τ) (r := (R_PG, F_PG, 4)) rfl) ⟨Nat.le_of_ble_eq_true rfl, Nat.le_of_ble_eq_true rfl⟩ rfl hl.1 rfl (Nat.le_of_ble_eq_true rfl) d_Law_527 ⟨(show cells + 0 ≤ 600000 by omega), (show slots + 0 ≤ 7302250 by omega)⟩ (fun r t H locs hp9 hW hS => ?_)
  obtain ⟨x1, o1, rfl, rfl, hI1⟩ : ∃ x1 o1, t = ((a, x1, o1), (a, xm, om)) ∧ r = (if a 0 13 = 0 then 0 else a 0 28) ∧ gI np a x1 := ⟨x, o, hp9.1, hp9.2, hI⟩
  have hW : gW g A ad np (a, x1, o1) (a, xm, om) H := hW
  refine lv_aload_n hx hb d_Law_530 rfl (lv_at hl 2 rfl) ?_
  refine gc_iV (b := ad 74) (As := []) (rest := [.int (if a 0 13 = 0 then 0 else a 0 28)]) X cw_Law_80 (C_Mod_fetches l ) hW hS (gW_recv (ci := 7) (fs := gf7 ad) hK hW (by omega) (fun σ τ => ge_7 rfl σ τ) (r := (R_Mod, F_Mod, 37)) rfl) ⟨Nat.le_of_ble_eq_true rfl, Nat.le_of_ble_eq_true rfl⟩ rfl hl.1 rfl (Nat.le_of_ble_eq_true rfl) d_Law_531 ⟨(show cells + 0 ≤ 600000 by omega), (show slots + 0 ≤ 7302250 by omega)⟩ (fun r t H locs hp8 hW hS => ?_)
  obtain ⟨x2, o2, rfl, rfl⟩ : ∃ x2 o2, t = ((a, x1, o1), (a, x2, o2)) ∧ r = (if a 0 13 = 0 then 0 else a 0 28) := ⟨xm, om, hp8.1, hp8.2⟩
  have hW : gW g A ad np (a, x1, o1) (a, x2, o2) H := hW
  refine lv_icmp_eq (tgt := 675) hx hb d_Law_534 (by decide) (fun h => ?_) (fun h => absurd rfl h)
  exact W.widen (by omega) (by omega) (kk _ _ ⟨ad, np, _, _, _, _, _, rfl, rfl, hW, hI1⟩ hS)
set_option maxHeartbeats 1000000 in
set_option maxRecDepth 20000 in
theorem LC_waiting (l : Launch) {p : Program} {e : Env} {s : State} {m : MethodId} {args : Array Value} {below : List Frame} {meth : Method} {c : Code} {H : Heap} {locs : List Loc} {cells slots : Nat} {Q : State → Prop} {ls : Array Slot} {g : gG} {A : Nat → Prop} {b L i h1 h2 : Nat} {xs : Nat → Int32} (X : gcx g A p s m args c code 4 "PoliteGathererLaw") (hXs : va_X b L xs s s.heap) (hbl : b < s.heap.size) (hbA : ¬ A b) (hA : ∀ q, s.heap.size ≤ q → A q) (hO : nO s) (hI : lI g A h1 h2 H) (hS : va_S A s.heap H locs) (hl : lv_has ls 4 [(0, .ref b), (1, .ref h1), (2, .ref h2), (3, .int (nI i))]) (hi : i + 5 ≤ L) (hL : L ≤ 2560) (hc : cells + 5 ≤ 600000) (hs : slots + 25 ≤ 7302250)
    (kk : ∀ (H1 : Heap) (locs1 : List Loc), lI g A h1 h2 H1 → va_S A s.heap H1 locs1 → W p l e room_1 s m args below meth c H1 locs1 (cells + 5) (slots + 25) Q (F0 m 675 ls [])) : W p l e room_1 s m args below meth c H locs cells slots Q (F0 m 539 ls []) := by
  have hx := X.1.1
  have hb := X.1.2.1
  have hK := X.2.1
  obtain ⟨ad, np, a, x, o, xm, om, rfl, rfl, hW, hI⟩ := hI
  refine lv_aload_n hx hb d_Law_539 rfl (lv_at hl 1 rfl) ?_
  refine gc_iV (b := ad 0) (As := []) (rest := []) X cw_Law_81 (C_PG_waiting l ) hW hS (gW_recv (ci := 0) (fs := gf0 ad) hK hW (by omega) (fun σ τ => ge_0 rfl σ τ) (r := (R_PG, F_PG, 4)) rfl) ⟨Nat.le_of_ble_eq_true rfl, Nat.le_of_ble_eq_true rfl⟩ rfl hl.1 rfl (Nat.le_of_ble_eq_true rfl) d_Law_540 ⟨(show cells + 0 ≤ 600000 by omega), (show slots + 0 ≤ 7302250 by omega)⟩ (fun r t H locs hp9 hW hS => ?_)
  obtain ⟨x1, o1, rfl, rfl, hI1⟩ : ∃ x1 o1, t = ((a, x1, o1), (a, xm, om)) ∧ r = (if a 0 13 = 0 then 0 else a 0 21 - a 0 20) ∧ gI np a x1 := ⟨x, o, hp9.1, hp9.2, hI⟩
  have hW : gW g A ad np (a, x1, o1) (a, xm, om) H := hW
  refine lv_aload_n hx hb d_Law_543 rfl (lv_at hl 2 rfl) ?_
  refine gc_iV (b := ad 74) (As := []) (rest := [.int (if a 0 13 = 0 then 0 else a 0 21 - a 0 20)]) X cw_Law_84 (C_Mod_waiting l ) hW hS (gW_recv (ci := 7) (fs := gf7 ad) hK hW (by omega) (fun σ τ => ge_7 rfl σ τ) (r := (R_Mod, F_Mod, 37)) rfl) ⟨Nat.le_of_ble_eq_true rfl, Nat.le_of_ble_eq_true rfl⟩ rfl hl.1 rfl (Nat.le_of_ble_eq_true rfl) d_Law_544 ⟨(show cells + 0 ≤ 600000 by omega), (show slots + 0 ≤ 7302250 by omega)⟩ (fun r t H locs hp8 hW hS => ?_)
  obtain ⟨x2, o2, rfl, rfl⟩ : ∃ x2 o2, t = ((a, x1, o1), (a, x2, o2)) ∧ r = (if a 0 13 = 0 then 0 else a 0 21 - a 0 20) := ⟨xm, om, hp8.1, hp8.2⟩
  have hW : gW g A ad np (a, x1, o1) (a, x2, o2) H := hW
  refine lv_icmp_eq (tgt := 675) hx hb d_Law_547 (by decide) (fun h => ?_) (fun h => absurd rfl h)
  exact W.widen (by omega) (by omega) (kk _ _ ⟨ad, np, _, _, _, _, _, rfl, rfl, hW, hI1⟩ hS)
set_option maxHeartbeats 1000000 in
set_option maxRecDepth 20000 in
theorem LC_corpusAt (l : Launch) {p : Program} {e : Env} {s : State} {m : MethodId} {args : Array Value} {below : List Frame} {meth : Method} {c : Code} {H : Heap} {locs : List Loc} {cells slots : Nat} {Q : State → Prop} {ls : Array Slot} {g : gG} {A : Nat → Prop} {b L i h1 h2 : Nat} {xs : Nat → Int32} (X : gcx g A p s m args c code 4 "PoliteGathererLaw") (hXs : va_X b L xs s s.heap) (hbl : b < s.heap.size) (hbA : ¬ A b) (hA : ∀ q, s.heap.size ≤ q → A q) (hO : nO s) (hI : lI g A h1 h2 H) (hS : va_S A s.heap H locs) (hl : lv_has ls 4 [(0, .ref b), (1, .ref h1), (2, .ref h2), (3, .int (nI i))]) (hi : i + 5 ≤ L) (hL : L ≤ 2560) (hc : cells + 5 ≤ 600000) (hs : slots + 25 ≤ 7302250)
    (kk : ∀ (H1 : Heap) (locs1 : List Loc), lI g A h1 h2 H1 → va_S A s.heap H1 locs1 → W p l e room_1 s m args below meth c H1 locs1 (cells + 5) (slots + 25) Q (F0 m 675 ls [])) : W p l e room_1 s m args below meth c H locs cells slots Q (F0 m 552 ls []) := by
  have hx := X.1.1
  have hb := X.1.2.1
  have hK := X.2.1
  obtain ⟨ad, np, a, x, o, xm, om, rfl, rfl, hW, hI⟩ := hI
  refine lv_aload_n hx hb d_Law_552 rfl (lv_at hl 1 rfl) ?_
  refine lv_aload_n hx hb d_Law_553 rfl (lv_at hl 0 rfl) ?_
  refine lv_iload_n hx hb d_Law_554 rfl (lv_at hl 3 rfl) ?_
  refine lv_iconst (v := 1) hx hb d_Law_555 (by decide) ?_
  refine lv_iadd hx hb d_Law_556 ?_
  refine va_sld hx hb hXs hbl hbA hS (lw_in (nI_p1 i) (by omega) hL) d_Law_557 ?_
  refine gc_iV (b := ad 0) (As := [.int (xs (nI i + 1).toNatClampNeg)]) (rest := []) X cw_Law_85 (C_PG_corpusAt l hI.1.1 hI.2.1) hW hS (gW_recv (ci := 0) (fs := gf0 ad) hK hW (by omega) (fun σ τ => ge_0 rfl σ τ) (r := (R_PG, F_PG, 4)) rfl) ⟨Nat.le_of_ble_eq_true rfl, Nat.le_of_ble_eq_true rfl⟩ rfl hl.1 rfl (Nat.le_of_ble_eq_true rfl) d_Law_558 ⟨(show cells + 0 ≤ 600000 by omega), (show slots + 0 ≤ 7302250 by omega)⟩ (fun r t H locs hp9 hW hS => ?_)
  obtain ⟨x1, o1, rfl, rfl, hI1⟩ : ∃ x1 o1, t = ((a, x1, o1), (a, xm, om)) ∧ r = (rAt a (xs (nI i + 1).toNatClampNeg)) ∧ gI np a x1 := ⟨x, o, hp9.1, hp9.2, hI⟩
  have hW : gW g A ad np (a, x1, o1) (a, xm, om) H := hW
  refine lv_aload_n hx hb d_Law_561 rfl (lv_at hl 2 rfl) ?_
  refine lv_aload_n hx hb d_Law_562 rfl (lv_at hl 0 rfl) ?_
  refine lv_iload_n hx hb d_Law_563 rfl (lv_at hl 3 rfl) ?_
  refine lv_iconst (v := 1) hx hb d_Law_564 (by decide) ?_
  refine lv_iadd hx hb d_Law_565 ?_
  refine va_sld hx hb hXs hbl hbA hS (lw_in (nI_p1 i) (by omega) hL) d_Law_566 ?_
  refine gc_iV (b := ad 74) (As := [.int (xs (nI i + 1).toNatClampNeg)]) (rest := [.int (rAt a (xs (nI i + 1).toNatClampNeg))]) X cw_Law_88 (C_Mod_corpusAt l hI.1.1 hI.2.1) hW hS (gW_recv (ci := 7) (fs := gf7 ad) hK hW (by omega) (fun σ τ => ge_7 rfl σ τ) (r := (R_Mod, F_Mod, 37)) rfl) ⟨Nat.le_of_ble_eq_true rfl, Nat.le_of_ble_eq_true rfl⟩ rfl hl.1 rfl (Nat.le_of_ble_eq_true rfl) d_Law_567 ⟨(show cells + 0 ≤ 600000 by omega), (show slots + 0 ≤ 7302250 by omega)⟩ (fun r t H locs hp8 hW hS => ?_)
  obtain ⟨x2, o2, rfl, rfl⟩ : ∃ x2 o2, t = ((a, x1, o1), (a, x2, o2)) ∧ r = (rAt a (xs (nI i + 1).toNatClampNeg)) := ⟨xm, om, hp8.1, hp8.2⟩
  have hW : gW g A ad np (a, x1, o1) (a, x2, o2) H := hW
  refine lv_icmp_eq (tgt := 675) hx hb d_Law_570 (by decide) (fun h => ?_) (fun h => absurd rfl h)
  exact W.widen (by omega) (by omega) (kk _ _ ⟨ad, np, _, _, _, _, _, rfl, rfl, hW, hI1⟩ hS)
set_option maxHeartbeats 1000000 in
set_option maxRecDepth 20000 in
theorem LC_document (l : Launch) {p : Program} {e : Env} {s : State} {m : MethodId} {args : Array Value} {below : List Frame} {meth : Method} {c : Code} {H : Heap} {locs : List Loc} {cells slots : Nat} {Q : State → Prop} {ls : Array Slot} {g : gG} {A : Nat → Prop} {b L i h1 h2 : Nat} {xs : Nat → Int32} (X : gcx g A p s m args c code 4 "PoliteGathererLaw") (hXs : va_X b L xs s s.heap) (hbl : b < s.heap.size) (hbA : ¬ A b) (hA : ∀ q, s.heap.size ≤ q → A q) (hO : nO s) (hI : lI g A h1 h2 H) (hS : va_S A s.heap H locs) (hl : lv_has ls 4 [(0, .ref b), (1, .ref h1), (2, .ref h2), (3, .int (nI i))]) (hi : i + 5 ≤ L) (hL : L ≤ 2560) (hc : cells + 5 ≤ 600000) (hs : slots + 25 ≤ 7302250)
    (kk : ∀ (H1 : Heap) (locs1 : List Loc), lI g A h1 h2 H1 → va_S A s.heap H1 locs1 → W p l e room_1 s m args below meth c H1 locs1 (cells + 5) (slots + 25) Q (F0 m 675 ls [])) : W p l e room_1 s m args below meth c H locs cells slots Q (F0 m 575 ls []) := by
  have hx := X.1.1
  have hb := X.1.2.1
  have hK := X.2.1
  obtain ⟨ad, np, a, x, o, xm, om, rfl, rfl, hW, hI⟩ := hI
  obtain ⟨nh, nq, nf, ng, mh, mq, mf, mg, hp, -, -, -, hng, -, -, -, -, -, hhp, hp4, -, -, -, -, -, -, -, -, hd⟩ := hI.2.1
  refine lv_aload_n hx hb d_Law_575 rfl (lv_at hl 1 rfl) ?_
  refine lv_aload_n hx hb d_Law_576 rfl (lv_at hl 0 rfl) ?_
  refine lv_iload_n hx hb d_Law_577 rfl (lv_at hl 3 rfl) ?_
  refine lv_iconst (v := 1) hx hb d_Law_578 (by decide) ?_
  refine lv_iadd hx hb d_Law_579 ?_
  refine va_sld hx hb hXs hbl hbA hS (lw_in (nI_p1 i) (by omega) hL) d_Law_580 ?_
  refine gc_iV (b := ad 0) (As := [.int (xs (nI i + 1).toNatClampNeg)]) (rest := []) X cw_Law_89 (C_PG_document l hI.1 hI.2.1) hW hS (gW_recv (ci := 0) (fs := gf0 ad) hK hW (by omega) (fun σ τ => ge_0 rfl σ τ) (r := (R_PG, F_PG, 4)) rfl) ⟨Nat.le_of_ble_eq_true rfl, Nat.le_of_ble_eq_true rfl⟩ rfl hl.1 rfl (Nat.le_of_ble_eq_true rfl) d_Law_581 ⟨(show cells + 0 ≤ 600000 by omega), (show slots + 0 ≤ 7302250 by omega)⟩ (fun r t H locs hp9 hW hS => ?_)
  obtain ⟨x1, o1, rfl, rfl, hI1⟩ : ∃ x1 o1, t = ((a, x1, o1), (a, xm, om)) ∧ r = (rDc a (xs (nI i + 1).toNatClampNeg)) ∧ gI np a x1 := ⟨x, o, hp9.1, hp9.2, hI⟩
  have hW : gW g A ad np (a, x1, o1) (a, xm, om) H := hW
  refine lv_aload_n hx hb d_Law_584 rfl (lv_at hl 2 rfl) ?_
  refine lv_aload_n hx hb d_Law_585 rfl (lv_at hl 0 rfl) ?_
  refine lv_iload_n hx hb d_Law_586 rfl (lv_at hl 3 rfl) ?_
  refine lv_iconst (v := 1) hx hb d_Law_587 (by decide) ?_
  refine lv_iadd hx hb d_Law_588 ?_
  refine va_sld hx hb hXs hbl hbA hS (lw_in (nI_p1 i) (by omega) hL) d_Law_589 ?_
  refine gc_iV (b := ad 74) (As := [.int (xs (nI i + 1).toNatClampNeg)]) (rest := [.int (rDc a (xs (nI i + 1).toNatClampNeg))]) X cw_Law_92 (C_Mod_document l hI.1 hng hd) hW hS (gW_recv (ci := 7) (fs := gf7 ad) hK hW (by omega) (fun σ τ => ge_7 rfl σ τ) (r := (R_Mod, F_Mod, 37)) rfl) ⟨Nat.le_of_ble_eq_true rfl, Nat.le_of_ble_eq_true rfl⟩ rfl hl.1 rfl (Nat.le_of_ble_eq_true rfl) d_Law_590 ⟨(show cells + 0 ≤ 600000 by omega), (show slots + 0 ≤ 7302250 by omega)⟩ (fun r t H locs hp8 hW hS => ?_)
  obtain ⟨x2, o2, rfl, rfl⟩ : ∃ x2 o2, t = ((a, x1, o1), (a, x2, o2)) ∧ r = (rDc a (xs (nI i + 1).toNatClampNeg)) := ⟨xm, om, hp8.1, hp8.2⟩
  have hW : gW g A ad np (a, x1, o1) (a, x2, o2) H := hW
  refine lv_icmp_eq (tgt := 675) hx hb d_Law_593 (by decide) (fun h => ?_) (fun h => absurd rfl h)
  exact W.widen (by omega) (by omega) (kk _ _ ⟨ad, np, _, _, _, _, _, rfl, rfl, hW, hI1⟩ hS)
set_option maxHeartbeats 1000000 in
set_option maxRecDepth 20000 in
theorem LC_rank (l : Launch) {p : Program} {e : Env} {s : State} {m : MethodId} {args : Array Value} {below : List Frame} {meth : Method} {c : Code} {H : Heap} {locs : List Loc} {cells slots : Nat} {Q : State → Prop} {ls : Array Slot} {g : gG} {A : Nat → Prop} {b L i h1 h2 : Nat} {xs : Nat → Int32} (X : gcx g A p s m args c code 4 "PoliteGathererLaw") (hXs : va_X b L xs s s.heap) (hbl : b < s.heap.size) (hbA : ¬ A b) (hA : ∀ q, s.heap.size ≤ q → A q) (hO : nO s) (hI : lI g A h1 h2 H) (hS : va_S A s.heap H locs) (hl : lv_has ls 4 [(0, .ref b), (1, .ref h1), (2, .ref h2), (3, .int (nI i))]) (hi : i + 5 ≤ L) (hL : L ≤ 2560) (hc : cells + 5 ≤ 600000) (hs : slots + 25 ≤ 7302250)
    (kk : ∀ (H1 : Heap) (locs1 : List Loc), lI g A h1 h2 H1 → va_S A s.heap H1 locs1 → W p l e room_1 s m args below meth c H1 locs1 (cells + 5) (slots + 25) Q (F0 m 675 ls [])) : W p l e room_1 s m args below meth c H locs cells slots Q (F0 m 598 ls []) := by
  have hx := X.1.1
  have hb := X.1.2.1
  have hK := X.2.1
  obtain ⟨ad, np, a, x, o, xm, om, rfl, rfl, hW, hI⟩ := hI
  obtain ⟨nh, nq, nf, ng, mh, mq, mf, mg, hp, -, -, -, hng, -, -, -, -, -, hhp, hp4, -, -, -, -, -, -, -, -, hd⟩ := hI.2.1
  refine lv_aload_n hx hb d_Law_598 rfl (lv_at hl 1 rfl) ?_
  refine lv_aload_n hx hb d_Law_599 rfl (lv_at hl 0 rfl) ?_
  refine lv_iload_n hx hb d_Law_600 rfl (lv_at hl 3 rfl) ?_
  refine lv_iconst (v := 1) hx hb d_Law_601 (by decide) ?_
  refine lv_iadd hx hb d_Law_602 ?_
  refine va_sld hx hb hXs hbl hbA hS (lw_in (nI_p1 i) (by omega) hL) d_Law_603 ?_
  refine lv_aload_n hx hb d_Law_604 rfl (lv_at hl 0 rfl) ?_
  refine lv_iload_n hx hb d_Law_605 rfl (lv_at hl 3 rfl) ?_
  refine lv_iconst (v := 2) hx hb d_Law_606 (by decide) ?_
  refine lv_iadd hx hb d_Law_607 ?_
  refine va_sld hx hb hXs hbl hbA hS (lw_in (nI_p2 i) (by omega) hL) d_Law_608 ?_
  refine gc_lV (b := ad 0) (As := [.int (xs (nI i + 1).toNatClampNeg), .int (xs (nI i + 2).toNatClampNeg)]) (rest := []) X cw_Law_93 (C_PG_rank l hI.1 hI.2.2 hI.2.1) hW hS (gW_recv (ci := 0) (fs := gf0 ad) hK hW (by omega) (fun σ τ => ge_0 rfl σ τ) (r := (R_PG, F_PG, 4)) rfl) ⟨Nat.le_of_ble_eq_true rfl, Nat.le_of_ble_eq_true rfl⟩ rfl hl.1 rfl (Nat.le_of_ble_eq_true rfl) d_Law_609 ⟨(show cells + 0 ≤ 600000 by omega), (show slots + 0 ≤ 7302250 by omega)⟩ (fun r t H locs hp9 hW hS => ?_)
  obtain ⟨x1, o1, rfl, rfl, hI1⟩ : ∃ x1 o1, t = ((a, x1, o1), (a, xm, om)) ∧ r = (rRk a (xs (nI i + 1).toNatClampNeg) (xs (nI i + 2).toNatClampNeg)) ∧ gI np a x1 := by obtain ⟨h1, x1, o1, h2, h3⟩ := hp9; exact ⟨x1, o1, h2, h1, hI.1, hI.2.1, h3⟩
  have hW : gW g A ad np (a, x1, o1) (a, xm, om) H := hW
  refine lv_aload_n hx hb d_Law_612 rfl (lv_at hl 2 rfl) ?_
  refine lv_aload_n hx hb d_Law_613 rfl (lv_at hl 0 rfl) ?_
  refine lv_iload_n hx hb d_Law_614 rfl (lv_at hl 3 rfl) ?_
  refine lv_iconst (v := 1) hx hb d_Law_615 (by decide) ?_
  refine lv_iadd hx hb d_Law_616 ?_
  refine va_sld hx hb hXs hbl hbA hS (lw_in (nI_p1 i) (by omega) hL) d_Law_617 ?_
  refine lv_aload_n hx hb d_Law_618 rfl (lv_at hl 0 rfl) ?_
  refine lv_iload_n hx hb d_Law_619 rfl (lv_at hl 3 rfl) ?_
  refine lv_iconst (v := 2) hx hb d_Law_620 (by decide) ?_
  refine lv_iadd hx hb d_Law_621 ?_
  refine va_sld hx hb hXs hbl hbA hS (lw_in (nI_p2 i) (by omega) hL) d_Law_622 ?_
  refine gc_lV (b := ad 74) (As := [.int (xs (nI i + 1).toNatClampNeg), .int (xs (nI i + 2).toNatClampNeg)]) (rest := [.long (rRk a (xs (nI i + 1).toNatClampNeg) (xs (nI i + 2).toNatClampNeg))]) X cw_Law_97 (C_Mod_rank l hI.1 hng hd hhp hp4) hW hS (gW_recv (ci := 7) (fs := gf7 ad) hK hW (by omega) (fun σ τ => ge_7 rfl σ τ) (r := (R_Mod, F_Mod, 37)) rfl) ⟨Nat.le_of_ble_eq_true rfl, Nat.le_of_ble_eq_true rfl⟩ rfl hl.1 rfl (Nat.le_of_ble_eq_true rfl) d_Law_623 ⟨(show cells + 0 ≤ 600000 by omega), (show slots + 0 ≤ 7302250 by omega)⟩ (fun r t H locs hp8 hW hS => ?_)
  obtain ⟨x2, o2, rfl, rfl⟩ : ∃ x2 o2, t = ((a, x1, o1), (a, x2, o2)) ∧ r = (rRk a (xs (nI i + 1).toNatClampNeg) (xs (nI i + 2).toNatClampNeg)) := by obtain ⟨h1, x2, o2, h2⟩ := hp8; exact ⟨x2, o2, h2, h1⟩
  have hW : gW g A ad np (a, x1, o1) (a, x2, o2) H := hW
  refine W.lcmp hx hb d_Law_626 ?_
  refine lv_if_eq (tgt := 675) hx hb d_Law_627 (by decide) (fun h => ?_) (fun h => absurd (lg0.mpr rfl) h)
  exact W.widen (by omega) (by omega) (kk _ _ ⟨ad, np, _, _, _, _, _, rfl, rfl, hW, hI1⟩ hS)
set_option maxHeartbeats 1000000 in
set_option maxRecDepth 20000 in
theorem LC_best (l : Launch) {p : Program} {e : Env} {s : State} {m : MethodId} {args : Array Value} {below : List Frame} {meth : Method} {c : Code} {H : Heap} {locs : List Loc} {cells slots : Nat} {Q : State → Prop} {ls : Array Slot} {g : gG} {A : Nat → Prop} {b L i h1 h2 : Nat} {xs : Nat → Int32} (X : gcx g A p s m args c code 4 "PoliteGathererLaw") (hXs : va_X b L xs s s.heap) (hbl : b < s.heap.size) (hbA : ¬ A b) (hA : ∀ q, s.heap.size ≤ q → A q) (hO : nO s) (hI : lI g A h1 h2 H) (hS : va_S A s.heap H locs) (hl : lv_has ls 4 [(0, .ref b), (1, .ref h1), (2, .ref h2), (3, .int (nI i))]) (hi : i + 5 ≤ L) (hL : L ≤ 2560) (hc : cells + 5 ≤ 600000) (hs : slots + 25 ≤ 7302250)
    (kk : ∀ (H1 : Heap) (locs1 : List Loc), lI g A h1 h2 H1 → va_S A s.heap H1 locs1 → W p l e room_1 s m args below meth c H1 locs1 (cells + 5) (slots + 25) Q (F0 m 675 ls [])) : W p l e room_1 s m args below meth c H locs cells slots Q (F0 m 632 ls []) := by
  have hx := X.1.1
  have hb := X.1.2.1
  have hK := X.2.1
  obtain ⟨ad, np, a, x, o, xm, om, rfl, rfl, hW, hI⟩ := hI
  obtain ⟨nh, nq, nf, ng, mh, mq, mf, mg, hp, -, -, -, hng, -, -, -, -, -, hhp, hp4, -, -, -, -, -, -, -, -, hd⟩ := hI.2.1
  refine lv_aload_n hx hb d_Law_632 rfl (lv_at hl 1 rfl) ?_
  refine lv_aload_n hx hb d_Law_633 rfl (lv_at hl 0 rfl) ?_
  refine lv_iload_n hx hb d_Law_634 rfl (lv_at hl 3 rfl) ?_
  refine lv_iconst (v := 1) hx hb d_Law_635 (by decide) ?_
  refine lv_iadd hx hb d_Law_636 ?_
  refine va_sld hx hb hXs hbl hbA hS (lw_in (nI_p1 i) (by omega) hL) d_Law_637 ?_
  refine lv_aload_n hx hb d_Law_638 rfl (lv_at hl 0 rfl) ?_
  refine lv_iload_n hx hb d_Law_639 rfl (lv_at hl 3 rfl) ?_
  refine lv_iconst (v := 2) hx hb d_Law_640 (by decide) ?_
  refine lv_iadd hx hb d_Law_641 ?_
  refine va_sld hx hb hXs hbl hbA hS (lw_in (nI_p2 i) (by omega) hL) d_Law_642 ?_
  refine lv_aload_n hx hb d_Law_643 rfl (lv_at hl 0 rfl) ?_
  refine lv_iload_n hx hb d_Law_644 rfl (lv_at hl 3 rfl) ?_
  refine lv_iconst (v := 3) hx hb d_Law_645 (by decide) ?_
  refine lv_iadd hx hb d_Law_646 ?_
  refine va_sld hx hb hXs hbl hbA hS (lw_in (nI_p3 i) (by omega) hL) d_Law_647 ?_
  refine gc_iV (b := ad 0) (As := [.int (xs (nI i + 1).toNatClampNeg), .int (xs (nI i + 2).toNatClampNeg), .int (xs (nI i + 3).toNatClampNeg)]) (rest := []) X cw_Law_98 (C_PG_best l hI.1 hI.2.2 hI.2.1) hW hS (gW_recv (ci := 0) (fs := gf0 ad) hK hW (by omega) (fun σ τ => ge_0 rfl σ τ) (r := (R_PG, F_PG, 4)) rfl) ⟨Nat.le_of_ble_eq_true rfl, Nat.le_of_ble_eq_true rfl⟩ rfl hl.1 rfl (Nat.le_of_ble_eq_true rfl) d_Law_648 ⟨(show cells + 0 ≤ 600000 by omega), (show slots + 0 ≤ 7302250 by omega)⟩ (fun r t H locs hp9 hW hS => ?_)
  obtain ⟨x1, o1, rfl, rfl, hI1⟩ : ∃ x1 o1, t = ((a, x1, o1), (a, xm, om)) ∧ r = (rBs a (xs (nI i + 1).toNatClampNeg) (xs (nI i + 2).toNatClampNeg) (xs (nI i + 3).toNatClampNeg)) ∧ gI np a x1 := by obtain ⟨h1, x1, o1, h2, h3⟩ := hp9; exact ⟨x1, o1, h2, h1, hI.1, hI.2.1, h3⟩
  have hW : gW g A ad np (a, x1, o1) (a, xm, om) H := hW
  refine lv_aload_n hx hb d_Law_651 rfl (lv_at hl 2 rfl) ?_
  refine lv_aload_n hx hb d_Law_652 rfl (lv_at hl 0 rfl) ?_
  refine lv_iload_n hx hb d_Law_653 rfl (lv_at hl 3 rfl) ?_
  refine lv_iconst (v := 1) hx hb d_Law_654 (by decide) ?_
  refine lv_iadd hx hb d_Law_655 ?_
  refine va_sld hx hb hXs hbl hbA hS (lw_in (nI_p1 i) (by omega) hL) d_Law_656 ?_
  refine lv_aload_n hx hb d_Law_657 rfl (lv_at hl 0 rfl) ?_
  refine lv_iload_n hx hb d_Law_658 rfl (lv_at hl 3 rfl) ?_
  refine lv_iconst (v := 2) hx hb d_Law_659 (by decide) ?_
  refine lv_iadd hx hb d_Law_660 ?_
  refine va_sld hx hb hXs hbl hbA hS (lw_in (nI_p2 i) (by omega) hL) d_Law_661 ?_
  refine lv_aload_n hx hb d_Law_662 rfl (lv_at hl 0 rfl) ?_
  refine lv_iload_n hx hb d_Law_663 rfl (lv_at hl 3 rfl) ?_
  refine lv_iconst (v := 3) hx hb d_Law_664 (by decide) ?_
  refine lv_iadd hx hb d_Law_665 ?_
  refine va_sld hx hb hXs hbl hbA hS (lw_in (nI_p3 i) (by omega) hL) d_Law_666 ?_
  refine gc_iV (b := ad 74) (As := [.int (xs (nI i + 1).toNatClampNeg), .int (xs (nI i + 2).toNatClampNeg), .int (xs (nI i + 3).toNatClampNeg)]) (rest := [.int (rBs a (xs (nI i + 1).toNatClampNeg) (xs (nI i + 2).toNatClampNeg) (xs (nI i + 3).toNatClampNeg))]) X cw_Law_102 (C_Mod_best l hI.1 hng hd hhp hp4) hW hS (gW_recv (ci := 7) (fs := gf7 ad) hK hW (by omega) (fun σ τ => ge_7 rfl σ τ) (r := (R_Mod, F_Mod, 37)) rfl) ⟨Nat.le_of_ble_eq_true rfl, Nat.le_of_ble_eq_true rfl⟩ rfl hl.1 rfl (Nat.le_of_ble_eq_true rfl) d_Law_667 ⟨(show cells + 0 ≤ 600000 by omega), (show slots + 0 ≤ 7302250 by omega)⟩ (fun r t H locs hp8 hW hS => ?_)
  obtain ⟨x2, o2, rfl, rfl⟩ : ∃ x2 o2, t = ((a, x1, o1), (a, x2, o2)) ∧ r = (rBs a (xs (nI i + 1).toNatClampNeg) (xs (nI i + 2).toNatClampNeg) (xs (nI i + 3).toNatClampNeg)) := by obtain ⟨h1, x2, o2, h2⟩ := hp8; exact ⟨x2, o2, h2, h1⟩
  have hW : gW g A ad np (a, x1, o1) (a, x2, o2) H := hW
  refine lv_icmp_eq (tgt := 675) hx hb d_Law_670 (by decide) (fun h => ?_) (fun h => absurd rfl h)
  exact W.widen (by omega) (by omega) (kk _ _ ⟨ad, np, _, _, _, _, _, rfl, rfl, hW, hI1⟩ hS)
