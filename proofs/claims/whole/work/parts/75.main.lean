/-! The loop, and the whole. -/
theorem lw_toInt {n : Nat} (h : n < 2 ^ 31) : (nI n).toInt = (n : Int) := Int32.toInt_ofNat_of_lt h
theorem lw_end {L i : Nat} (hL : L ≤ 2560) (hi : i ≤ 2560) (h : ¬ nI L - 5 < nI i) : i + 5 ≤ L := by
  by_cases c : L < 5
  · exfalso
    have h9 : nI L - 5 < 0 := by
      rcases (by omega : L = 0 ∨ L = 1 ∨ L = 2 ∨ L = 3 ∨ L = 4) with rfl | rfl | rfl | rfl | rfl <;> decide
    exact h (Int32.lt_of_lt_of_le h9 (nI_pos' (by omega)))
  · obtain ⟨M, rfl⟩ : ∃ M, L = M + 5 := ⟨L - 5, by omega⟩
    rw [← nI_p5, Int32.add_sub_cancel] at h
    have := (nI_leI (a := i) (b := M) (by omega) (by omega)).mp (Int32.not_lt.mp h)
    omega
set_option maxHeartbeats 4000000 in
set_option maxRecDepth 20000 in
theorem lw_loop (l : Launch) {p : Program} {e : Env} {s : State} {m : MethodId} {args : Array Value} {below : List Frame} {meth : Method} {c : Code} {Q : State → Prop} {g : gG} {A : Nat → Prop} {b L h1 h2 : Nat} {xs : Nat → Int32} (X : gcx g A p s m args c code 4 "PoliteGathererLaw") (hXs : va_X b L xs s s.heap) (hbl : b < s.heap.size) (hbA : ¬ A b) (hA : ∀ q, s.heap.size ≤ q → A q) (hO : nO s) (hL : L ≤ 2560)
    (kend : ∀ (H : Heap) (locs : List Loc) (cells slots : Nat) (ls : Array Slot), va_S A s.heap H locs → cells ≤ 600000 → slots ≤ 7302250 → W p l e room_1 s m args below meth c H locs cells slots Q (F0 m 682 ls [.int 1])) :
    ∀ (fuel i : Nat) (ls : Array Slot) (H : Heap) (locs : List Loc), i ≤ 2560 → 2560 - i < fuel → lI g A h1 h2 H → va_S A s.heap H locs → lv_has ls 4 [(0, .ref b), (1, .ref h1), (2, .ref h2), (3, .int (nI i))] → W p l e room_1 s m args below meth c H locs (94 + i) (1672 + 5 * i) Q (F0 m 18 ls []) := by
  have hx := X.1.1
  have hb := X.1.2.1
  intro fuel
  induction fuel with
  | zero => intro i ls H locs _ h; exact absurd h (Nat.not_lt_zero _)
  | succ fuel ih =>
    intro i ls H locs hi hfu hI hS hl
    refine lv_iload_n hx hb d_Law_18 rfl (lv_at hl 3 rfl) ?_
    refine lv_aload_n hx hb d_Law_19 rfl (lv_at hl 0 rfl) ?_
    refine va_slen hx hb hXs hbl hbA hS d_Law_20 ?_
    refine lv_iconst (v := 5) hx hb d_Law_21 (by decide) ?_
    refine lv_isub hx hb d_Law_22 ?_
    refine lv_icmp_gt (tgt := 681) hx hb d_Law_23 (by decide) (fun h => ?_) (fun h => ?_)
    · refine lv_iconst (v := 1) hx hb d_Law_681 (by decide) ?_
      exact kend _ _ _ _ _ hS (by omega) (by omega)
    have hi5 : i + 5 ≤ L := lw_end hL hi h
    refine lv_aload_n hx hb d_Law_26 rfl (lv_at hl 0 rfl) ?_
    refine lv_iload_n hx hb d_Law_27 rfl (lv_at hl 3 rfl) ?_
    refine va_sld hx hb hXs hbl hbA hS (vp_in_nI (by omega) (by omega)) d_Law_28 ?_
    refine lv_bipush (v := 31) hx hb d_Law_29 (by decide) ?_
    refine lv_iand hx hb d_Law_31 ?_
    obtain ⟨j, hj, ej⟩ := pk_andE (xs (nI i).toNatClampNeg) (m := 31) 5 (by decide)
    rw [ej]
    have kk : ∀ (H1 : Heap) (locs1 : List Loc), lI g A h1 h2 H1 → va_S A s.heap H1 locs1 → W p l e room_1 s m args below meth c H1 locs1 (94 + i + 5) (1672 + 5 * i + 25) Q (F0 m 675 ls []) := by
      intro H1 locs1 hI1 hS1
      refine lv_iinc (v := nI (i + 5)) (k := 3) hx hb d_Law_675 hl rfl (nI_p5 i) (by decide) rfl (fun ls hl => ?_)
      refine lv_goto (tgt := 18) hx hb d_Law_678 (by decide) ?_
      have h9 := ih (i + 5) ls H1 locs1 (by omega) (by omega) hI1 hS1 (lv_sub hl [1, 2, 3, 0] rfl)
      rw [show 94 + (i + 5) = 94 + i + 5 by omega, show 1672 + 5 * (i + 5) = 1672 + 5 * i + 25 by omega] at h9
      exact h9
    have hc : 94 + i + 5 ≤ 600000 := by omega
    have hs : 1672 + 5 * i + 25 ≤ 7302250 := by omega
    by_cases hj20 : 19 < j
    · refine lv_tableOut (tgt := 675) hx hb d_Law_32 (Or.inr ?_) (by decide) ?_
      · rw [show (nI j).toInt = (j : Int) from lw_toInt (by omega)]; omega
      · exact W.widen (by omega) (by omega) (kk _ _ hI hS)
    · have hn0 : ¬ (nI j).toInt < 0 := by rw [lw_toInt (by omega)]; omega
      have hn1 : ¬ (19 : Int) < (nI j).toInt := by rw [lw_toInt (by omega)]; omega
      rcases (by omega : j = 0 ∨ j = 1 ∨ j = 2 ∨ j = 3 ∨ j = 4 ∨ j = 5 ∨ j = 6 ∨ j = 7 ∨ j = 8 ∨ j = 9 ∨ j = 10 ∨ j = 11 ∨ j = 12 ∨ j = 13 ∨ j = 14 ∨ j = 15 ∨ j = 16 ∨ j = 17 ∨ j = 18 ∨ j = 19) with rfl | rfl | rfl | rfl | rfl | rfl | rfl | rfl | rfl | rfl | rfl | rfl | rfl | rfl | rfl | rfl | rfl | rfl | rfl | rfl
      · exact lv_tableIn (tgt := 128) (off := 96) hx hb d_Law_32 hn0 hn1 (by decide) (by decide) (LC_page l X hXs hbl hbA hA hO hI hS hl hi5 hL hc hs kk)
      · exact lv_tableIn (tgt := 161) (off := 129) hx hb d_Law_32 hn0 hn1 (by decide) (by decide) (LC_write l X hXs hbl hbA hA hO hI hS hl hi5 hL hc hs kk)
      · exact lv_tableIn (tgt := 194) (off := 162) hx hb d_Law_32 hn0 hn1 (by decide) (by decide) (LC_link l X hXs hbl hbA hA hO hI hS hl hi5 hL hc hs kk)
      · exact lv_tableIn (tgt := 227) (off := 195) hx hb d_Law_32 hn0 hn1 (by decide) (by decide) (LC_move l X hXs hbl hbA hA hO hI hS hl hi5 hL hc hs kk)
      · exact lv_tableIn (tgt := 260) (off := 228) hx hb d_Law_32 hn0 hn1 (by decide) (by decide) (LC_drop l X hXs hbl hbA hA hO hI hS hl hi5 hL hc hs kk)
      · exact lv_tableIn (tgt := 283) (off := 251) hx hb d_Law_32 hn0 hn1 (by decide) (by decide) (LC_rule l X hXs hbl hbA hA hO hI hS hl hi5 hL hc hs kk)
      · exact lv_tableIn (tgt := 342) (off := 310) hx hb d_Law_32 hn0 hn1 (by decide) (by decide) (LC_first l X hXs hbl hbA hA hO hI hS hl hi5 hL hc hs kk)
      · exact lv_tableIn (tgt := 365) (off := 333) hx hb d_Law_32 hn0 hn1 (by decide) (by decide) (LC_begin l X hXs hbl hbA hA hO hI hS hl hi5 hL hc hs kk)
      · exact lv_tableIn (tgt := 418) (off := 386) hx hb d_Law_32 hn0 hn1 (by decide) (by decide) (LC_stop l X hXs hbl hbA hA hO hI hS hl hi5 hL hc hs kk)
      · exact lv_tableIn (tgt := 431) (off := 399) hx hb d_Law_32 hn0 hn1 (by decide) (by decide) (LC_work l X hXs hbl hbA hA hO hI hS hl hi5 hL hc hs kk)
      · exact lv_tableIn (tgt := 454) (off := 422) hx hb d_Law_32 hn0 hn1 (by decide) (by decide) (LC_crash l X hXs hbl hbA hA hO hI hS hl hi5 hL hc hs kk)
      · exact lv_tableIn (tgt := 467) (off := 435) hx hb d_Law_32 hn0 hn1 (by decide) (by decide) (LC_allowed l X hXs hbl hbA hA hO hI hS hl hi5 hL hc hs kk)
      · exact lv_tableIn (tgt := 490) (off := 458) hx hb d_Law_32 hn0 hn1 (by decide) (by decide) (LC_found l X hXs hbl hbA hA hO hI hS hl hi5 hL hc hs kk)
      · exact lv_tableIn (tgt := 513) (off := 481) hx hb d_Law_32 hn0 hn1 (by decide) (by decide) (LC_clock l X hXs hbl hbA hA hO hI hS hl hi5 hL hc hs kk)
      · exact lv_tableIn (tgt := 526) (off := 494) hx hb d_Law_32 hn0 hn1 (by decide) (by decide) (LC_fetches l X hXs hbl hbA hA hO hI hS hl hi5 hL hc hs kk)
      · exact lv_tableIn (tgt := 539) (off := 507) hx hb d_Law_32 hn0 hn1 (by decide) (by decide) (LC_waiting l X hXs hbl hbA hA hO hI hS hl hi5 hL hc hs kk)
      · exact lv_tableIn (tgt := 552) (off := 520) hx hb d_Law_32 hn0 hn1 (by decide) (by decide) (LC_corpusAt l X hXs hbl hbA hA hO hI hS hl hi5 hL hc hs kk)
      · exact lv_tableIn (tgt := 575) (off := 543) hx hb d_Law_32 hn0 hn1 (by decide) (by decide) (LC_document l X hXs hbl hbA hA hO hI hS hl hi5 hL hc hs kk)
      · exact lv_tableIn (tgt := 598) (off := 566) hx hb d_Law_32 hn0 hn1 (by decide) (by decide) (LC_rank l X hXs hbl hbA hA hO hI hS hl hi5 hL hc hs kk)
      · exact lv_tableIn (tgt := 632) (off := 600) hx hb d_Law_32 hn0 hn1 (by decide) (by decide) (LC_best l X hXs hbl hbA hA hO hI hS hl hi5 hL hc hs kk)
set_option maxHeartbeats 4000000 in
set_option maxRecDepth 20000 in
theorem lw_main (l : Launch) {p : Program} {e : Env} {s : State} {m : MethodId} {below : List Frame} {meth : Method} {c : Code} {Q : State → Prop} {b L : Nat} {xs : Nat → Int32} (hL : L ≤ 2560) (hx : p.tables.exec = Jvm.exec) (hb : c.code = code) (hml : c.maxLocals = 4) (hown : s.vm.findClass "PoliteGathererLaw" = some m.cls) (hts : ∀ w ∈ lw_tbl, w.before #[Value.ref b] s = true) (hXs : va_X b L xs s s.heap) (hbl : b < s.heap.size) (hgv : (Jvm.Cond.and given_1 narrow_1).before #[Value.ref b] s = true)
    (kend : ∀ (H : Heap) (ls : Array Slot), W p l e room_1 s m #[Value.ref b] below meth c H [] 600000 7302250 Q (F0 m 682 ls [.int 1])) : W p l e room_1 s m #[Value.ref b] below meth c s.heap [] 0 0 Q (entryFrame m ([Value.ref b] : List Value).toArray 4) := by
  obtain ⟨g, hK⟩ := lw_gK hts hgv
  have hO : nO s := hts _ (List.mem_append_right _ q156)
  have hA : ∀ q, s.heap.size ≤ q → (fun q => s.heap.size ≤ q) q := fun q h => h
  have hbA : ¬ (fun q => s.heap.size ≤ q) b := Nat.not_le.mpr hbl
  generalize hAe : (fun q => s.heap.size ≤ q) = A at hK hA hbA
  have X : gcx g A p s m #[Value.ref b] c code 4 "PoliteGathererLaw" := ⟨⟨hx, hb, hml, hown, fun w hw => hts w (List.mem_filter.mp hw).1⟩, hK⟩
  have hS : va_S A s.heap s.heap [] := va_S.rf
  have hl := lv_entry ([.ref b]) (n := 4) (Nat.le_of_ble_eq_true rfl)
  rw [lg_entry_eq]
  generalize (lg_sl ([.ref b]) ++ List.replicate (4 - (lg_sl ([.ref b])).length) Slot.unset).toArray = ls at hl ⊢
  have hl : lv_has ls 4 [(0, .ref b)] := hl
  have hW : nW g A [] s.heap := ⟨fun k q h => (by cases h), fun i j p q h => (by cases h), fun k q h => (by cases h)⟩
  refine nw_Law_7 X hW hS hA (Nat.le_of_ble_eq_true rfl) (Nat.le_of_ble_eq_true rfl) d_Law_0 (fun h0 H hW hS => ?_)
  refine lv_dup hx hb d_Law_3 rfl ?_
  refine n_ctor (As := []) (rest := [.ref h0]) X ci_Law_9 (C_PG_init l (h0 := h0)) hW hS hA hO ⟨Nat.le_of_ble_eq_true rfl, Nat.le_of_ble_eq_true rfl⟩ rfl hl.1 rfl (Nat.le_of_ble_eq_true rfl) d_Law_4 ⟨Nat.le_of_ble_eq_true rfl, Nat.le_of_ble_eq_true rfl⟩ (fun Z9 H locs hp hW hS => ?_)
  obtain ⟨q1, q2, q3, q4, q5, q6, q7, q8, q9, q10, q11, q12, q13, q14, q15, q16, q17, q18, q19, q20, q21, q22, q23, q24, q25, q26, q27, q28, q29, q30, q31, q32, q33, q34, q35, q36, q37, q38, q39, q40, q41, rfl⟩ := hp
  refine lv_astore_n hx hb d_Law_7 rfl hl (by decide) rfl (fun ls hl => ?_)
  have hl : lv_has ls 4 [(1, .ref h0), (0, .ref b)] := hl
  refine nw_Law_10 X hW hS hA (Nat.le_of_ble_eq_true rfl) (Nat.le_of_ble_eq_true rfl) d_Law_8 (fun hM H hW hS => ?_)
  refine lv_dup hx hb d_Law_11 rfl ?_
  refine n_ctor (As := []) (rest := [.ref hM]) X ci_Law_12 (C_Mod_init l (h0 := hM)) hW hS hA hO ⟨Nat.le_of_ble_eq_true rfl, Nat.le_of_ble_eq_true rfl⟩ rfl hl.1 rfl (Nat.le_of_ble_eq_true rfl) d_Law_12 ⟨Nat.le_of_ble_eq_true rfl, Nat.le_of_ble_eq_true rfl⟩ (fun Z9 H locs hp hW hS => ?_)
  obtain ⟨m1, m2, m3, m4, m5, m6, m7, m8, m9, m10, m11, m12, m13, m14, m15, m16, m17, m18, m19, rfl⟩ := hp
  have hW := lw_world hW
  refine lv_astore_n hx hb d_Law_15 rfl hl (by decide) rfl (fun ls hl => ?_)
  have hl : lv_has ls 4 [(2, .ref hM), (1, .ref h0), (0, .ref b)] := hl
  refine lv_iconst (v := 0) hx hb d_Law_16 (by decide) ?_
  refine lv_istore_n hx hb d_Law_17 rfl hl (by decide) rfl (fun ls hl => ?_)
  have hl : lv_has ls 4 [(3, .int (nI 0)), (2, .ref hM), (1, .ref h0), (0, .ref b)] := hl
  exact lw_loop l X hXs hbl hbA hA hO hL (fun H locs cells slots ls hS1 h1 h2 => va_forget (fun q hq => by have := hS1.2.2 q hq; rw [← hAe] at this; exact this) (W.widen h1 h2 (kend H ls))) 2561 0 ls H locs (by omega) (by omega) ⟨_, 0, _, _, _, _, _, rfl, rfl, hW, gI_0⟩ hS (lv_sub hl [3, 2, 1, 0] rfl)
