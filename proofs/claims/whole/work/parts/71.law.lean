/-! The law's links. -/
theorem cw_Law_13 : gwV "PoliteGathererLaw" 13 y_PG_page b_PG_page 3 (some .int) 2 := ⟨gWG_in (List.mem_append_right _ q197) rfl, gWG_in (List.mem_append_right _ q198) rfl, gWG_in (List.mem_append_right _ q199) rfl, gWG_in (List.mem_append_right _ q1) rfl, gWG_in (List.mem_append_right _ q200) rfl, by decide, by decide, by decide +kernel⟩
theorem cw_Law_18 : gwV "PoliteGathererLaw" 18 y_PG_write b_PG_write 3 (some .boolean) 2 := ⟨gWG_in (List.mem_append_right _ q257) rfl, gWG_in (List.mem_append_right _ q258) rfl, gWG_in (List.mem_append_right _ q259) rfl, gWG_in (List.mem_append_right _ q1) rfl, gWG_in (List.mem_append_right _ q260) rfl, by decide, by decide, by decide +kernel⟩
theorem cw_Law_23 : gwV "PoliteGathererLaw" 23 y_PG_link b_PG_link 3 (some .boolean) 2 := ⟨gWG_in (List.mem_append_right _ q273) rfl, gWG_in (List.mem_append_right _ q274) rfl, gWG_in (List.mem_append_right _ q275) rfl, gWG_in (List.mem_append_right _ q1) rfl, gWG_in (List.mem_append_right _ q276) rfl, by decide, by decide, by decide +kernel⟩
theorem cw_Law_27 : gwV "PoliteGathererLaw" 27 y_PG_move b_PG_move 3 (some .boolean) 2 := ⟨gWG_in (List.mem_append_right _ q277) rfl, gWG_in (List.mem_append_right _ q278) rfl, gWG_in (List.mem_append_right _ q279) rfl, gWG_in (List.mem_append_right _ q1) rfl, gWG_in (List.mem_append_right _ q280) rfl, by decide, by decide, by decide +kernel⟩
theorem cw_Law_31 : gwV "PoliteGathererLaw" 31 y_PG_drop b_PG_drop 2 (some .boolean) 1 := ⟨gWG_in (List.mem_append_right _ q283) rfl, gWG_in (List.mem_append_right _ q284) rfl, gWG_in (List.mem_append_right _ q285) rfl, gWG_in (List.mem_append_right _ q1) rfl, gWG_in (List.mem_append_right _ q286) rfl, by decide, by decide, by decide +kernel⟩
theorem cw_Law_36 : gwV "PoliteGathererLaw" 36 y_PG_rule b_PG_rule 4 (some .boolean) 3 := ⟨gWG_in (List.mem_append_right _ q289) rfl, gWG_in (List.mem_append_right _ q290) rfl, gWG_in (List.mem_append_right _ q291) rfl, gWG_in (List.mem_append_right _ q1) rfl, gWG_in (List.mem_append_right _ q292) rfl, by decide, by decide, by decide +kernel⟩
theorem cw_Law_41 : gwV "PoliteGathererLaw" 41 y_PG_first b_PG_first 2 (some .boolean) 1 := ⟨gWG_in (List.mem_append_right _ q299) rfl, gWG_in (List.mem_append_right _ q300) rfl, gWG_in (List.mem_append_right _ q301) rfl, gWG_in (List.mem_append_right _ q1) rfl, gWG_in (List.mem_append_right _ q302) rfl, by decide, by decide, by decide +kernel⟩
theorem cw_Law_45 : gwV "PoliteGathererLaw" 45 y_PG_begin b_PG_begin 5 (some .boolean) 4 := ⟨gWG_in (List.mem_append_right _ q303) rfl, gWG_in (List.mem_append_right _ q304) rfl, gWG_in (List.mem_append_right _ q305) rfl, gWG_in (List.mem_append_right _ q1) rfl, gWG_in (List.mem_append_right _ q306) rfl, by decide, by decide, by decide +kernel⟩
theorem cw_Law_50 : gwV "PoliteGathererLaw" 50 y_PG_stop b_PG_stop 1 (some .boolean) 0 := ⟨gWG_in (List.mem_append_right _ q339) rfl, gWG_in (List.mem_append_right _ q340) rfl, gWG_in (List.mem_append_right _ q341) rfl, gWG_in (List.mem_append_right _ q1) rfl, gWG_in (List.mem_append_right _ q342) rfl, by decide, by decide, by decide +kernel⟩
theorem cw_Law_55 : gwV "PoliteGathererLaw" 55 y_PG_work b_PG_work 4 (some .int) 1 := ⟨gWG_in (List.mem_append_right _ q343) rfl, gWG_in (List.mem_append_right _ q344) rfl, gWG_in (List.mem_append_right _ q345) rfl, gWG_in (List.mem_append_right _ q1) rfl, gWG_in (List.mem_append_right _ q346) rfl, by decide, by decide, by decide +kernel⟩
theorem cw_Law_60 : gwV "PoliteGathererLaw" 60 y_PG_crash b_PG_crash 1 (some .int) 0 := ⟨gWG_in (List.mem_append_right _ q379) rfl, gWG_in (List.mem_append_right _ q380) rfl, gWG_in (List.mem_append_right _ q381) rfl, gWG_in (List.mem_append_right _ q1) rfl, gWG_in (List.mem_append_right _ q382) rfl, by decide, by decide, by decide +kernel⟩
theorem cw_Law_65 : gwV "PoliteGathererLaw" 65 y_PG_allowed b_PG_allowed 2 (some .boolean) 1 := ⟨gWG_in (List.mem_append_right _ q387) rfl, gWG_in (List.mem_append_right _ q388) rfl, gWG_in (List.mem_append_right _ q389) rfl, gWG_in (List.mem_append_right _ q1) rfl, gWG_in (List.mem_append_right _ q390) rfl, by decide, by decide, by decide +kernel⟩
theorem cw_Law_69 : gwV "PoliteGathererLaw" 69 y_PG_found b_PG_found 2 (some .int) 1 := ⟨gWG_in (List.mem_append_right _ q392) rfl, gWG_in (List.mem_append_right _ q393) rfl, gWG_in (List.mem_append_right _ q394) rfl, gWG_in (List.mem_append_right _ q1) rfl, gWG_in (List.mem_append_right _ q395) rfl, by decide, by decide, by decide +kernel⟩
theorem cw_Law_73 : gwV "PoliteGathererLaw" 73 y_PG_clock b_PG_clock 1 (some .int) 0 := ⟨gWG_in (List.mem_append_right _ q397) rfl, gWG_in (List.mem_append_right _ q398) rfl, gWG_in (List.mem_append_right _ q399) rfl, gWG_in (List.mem_append_right _ q1) rfl, gWG_in (List.mem_append_right _ q400) rfl, by decide, by decide, by decide +kernel⟩
theorem cw_Law_77 : gwV "PoliteGathererLaw" 77 y_PG_fetches b_PG_fetches 1 (some .int) 0 := ⟨gWG_in (List.mem_append_right _ q401) rfl, gWG_in (List.mem_append_right _ q402) rfl, gWG_in (List.mem_append_right _ q403) rfl, gWG_in (List.mem_append_right _ q1) rfl, gWG_in (List.mem_append_right _ q404) rfl, by decide, by decide, by decide +kernel⟩
theorem cw_Law_81 : gwV "PoliteGathererLaw" 81 y_PG_waiting b_PG_waiting 1 (some .int) 0 := ⟨gWG_in (List.mem_append_right _ q405) rfl, gWG_in (List.mem_append_right _ q406) rfl, gWG_in (List.mem_append_right _ q407) rfl, gWG_in (List.mem_append_right _ q1) rfl, gWG_in (List.mem_append_right _ q408) rfl, by decide, by decide, by decide +kernel⟩
theorem cw_Law_85 : gwV "PoliteGathererLaw" 85 y_PG_corpusAt b_PG_corpusAt 2 (some .int) 1 := ⟨gWG_in (List.mem_append_right _ q409) rfl, gWG_in (List.mem_append_right _ q410) rfl, gWG_in (List.mem_append_right _ q411) rfl, gWG_in (List.mem_append_right _ q1) rfl, gWG_in (List.mem_append_right _ q412) rfl, by decide, by decide, by decide +kernel⟩
theorem cw_Law_89 : gwV "PoliteGathererLaw" 89 y_PG_document b_PG_document 2 (some .int) 1 := ⟨gWG_in (List.mem_append_right _ q414) rfl, gWG_in (List.mem_append_right _ q415) rfl, gWG_in (List.mem_append_right _ q416) rfl, gWG_in (List.mem_append_right _ q1) rfl, gWG_in (List.mem_append_right _ q417) rfl, by decide, by decide, by decide +kernel⟩
theorem cw_Law_93 : gwV "PoliteGathererLaw" 93 y_PG_rank b_PG_rank 3 (some .long) 2 := ⟨gWG_in (List.mem_append_right _ q428) rfl, gWG_in (List.mem_append_right _ q429) rfl, gWG_in (List.mem_append_right _ q430) rfl, gWG_in (List.mem_append_right _ q1) rfl, gWG_in (List.mem_append_right _ q431) rfl, by decide, by decide, by decide +kernel⟩
theorem cw_Law_98 : gwV "PoliteGathererLaw" 98 y_PG_best b_PG_best 4 (some .int) 3 := ⟨gWG_in (List.mem_append_right _ q465) rfl, gWG_in (List.mem_append_right _ q466) rfl, gWG_in (List.mem_append_right _ q467) rfl, gWG_in (List.mem_append_right _ q1) rfl, gWG_in (List.mem_append_right _ q468) rfl, by decide, by decide, by decide +kernel⟩
theorem cw_Law_17 : gwV "PoliteGathererLaw" 17 y_Mod_page b_Mod_page 4 (some .int) 2 := ⟨gWG_in (List.mem_append_right _ q612) rfl, gWG_in (List.mem_append_right _ q613) rfl, gWG_in (List.mem_append_right _ q614) rfl, gWG_in (List.mem_append_right _ q7) rfl, gWG_in (List.mem_append_right _ q615) rfl, by decide, by decide, by decide +kernel⟩
theorem cw_Law_22 : gwV "PoliteGathererLaw" 22 y_Mod_write b_Mod_write 3 (some .boolean) 2 := ⟨gWG_in (List.mem_append_right _ q617) rfl, gWG_in (List.mem_append_right _ q618) rfl, gWG_in (List.mem_append_right _ q619) rfl, gWG_in (List.mem_append_right _ q7) rfl, gWG_in (List.mem_append_right _ q620) rfl, by decide, by decide, by decide +kernel⟩
theorem cw_Law_26 : gwV "PoliteGathererLaw" 26 y_Mod_link b_Mod_link 3 (some .boolean) 2 := ⟨gWG_in (List.mem_append_right _ q625) rfl, gWG_in (List.mem_append_right _ q626) rfl, gWG_in (List.mem_append_right _ q627) rfl, gWG_in (List.mem_append_right _ q7) rfl, gWG_in (List.mem_append_right _ q628) rfl, by decide, by decide, by decide +kernel⟩
theorem cw_Law_30 : gwV "PoliteGathererLaw" 30 y_Mod_move b_Mod_move 3 (some .boolean) 2 := ⟨gWG_in (List.mem_append_right _ q629) rfl, gWG_in (List.mem_append_right _ q630) rfl, gWG_in (List.mem_append_right _ q631) rfl, gWG_in (List.mem_append_right _ q7) rfl, gWG_in (List.mem_append_right _ q632) rfl, by decide, by decide, by decide +kernel⟩
theorem cw_Law_35 : gwV "PoliteGathererLaw" 35 y_Mod_drop b_Mod_drop 2 (some .boolean) 1 := ⟨gWG_in (List.mem_append_right _ q633) rfl, gWG_in (List.mem_append_right _ q634) rfl, gWG_in (List.mem_append_right _ q635) rfl, gWG_in (List.mem_append_right _ q7) rfl, gWG_in (List.mem_append_right _ q636) rfl, by decide, by decide, by decide +kernel⟩
theorem cw_Law_40 : gwV "PoliteGathererLaw" 40 y_Mod_rule b_Mod_rule 4 (some .boolean) 3 := ⟨gWG_in (List.mem_append_right _ q637) rfl, gWG_in (List.mem_append_right _ q638) rfl, gWG_in (List.mem_append_right _ q639) rfl, gWG_in (List.mem_append_right _ q7) rfl, gWG_in (List.mem_append_right _ q640) rfl, by decide, by decide, by decide +kernel⟩
theorem cw_Law_44 : gwV "PoliteGathererLaw" 44 y_Mod_first b_Mod_first 2 (some .boolean) 1 := ⟨gWG_in (List.mem_append_right _ q641) rfl, gWG_in (List.mem_append_right _ q642) rfl, gWG_in (List.mem_append_right _ q643) rfl, gWG_in (List.mem_append_right _ q7) rfl, gWG_in (List.mem_append_right _ q644) rfl, by decide, by decide, by decide +kernel⟩
theorem cw_Law_68 : gwV "PoliteGathererLaw" 68 y_Mod_allowed b_Mod_allowed 7 (some .boolean) 1 := ⟨gWG_in (List.mem_append_right _ q645) rfl, gWG_in (List.mem_append_right _ q646) rfl, gWG_in (List.mem_append_right _ q647) rfl, gWG_in (List.mem_append_right _ q7) rfl, gWG_in (List.mem_append_right _ q648) rfl, by decide, by decide, by decide +kernel⟩
theorem cw_Law_49 : gwV "PoliteGathererLaw" 49 y_Mod_begin b_Mod_begin 6 (some .boolean) 4 := ⟨gWG_in (List.mem_append_right _ q653) rfl, gWG_in (List.mem_append_right _ q654) rfl, gWG_in (List.mem_append_right _ q655) rfl, gWG_in (List.mem_append_right _ q7) rfl, gWG_in (List.mem_append_right _ q656) rfl, by decide, by decide, by decide +kernel⟩
theorem cw_Law_54 : gwV "PoliteGathererLaw" 54 y_Mod_stop b_Mod_stop 2 (some .boolean) 0 := ⟨gWG_in (List.mem_append_right _ q665) rfl, gWG_in (List.mem_append_right _ q666) rfl, gWG_in (List.mem_append_right _ q667) rfl, gWG_in (List.mem_append_right _ q7) rfl, gWG_in (List.mem_append_right _ q668) rfl, by decide, by decide, by decide +kernel⟩
theorem cw_Law_59 : gwV "PoliteGathererLaw" 59 y_Mod_work b_Mod_work 4 (some .int) 1 := ⟨gWG_in (List.mem_append_right _ q669) rfl, gWG_in (List.mem_append_right _ q670) rfl, gWG_in (List.mem_append_right _ q671) rfl, gWG_in (List.mem_append_right _ q7) rfl, gWG_in (List.mem_append_right _ q672) rfl, by decide, by decide, by decide +kernel⟩
theorem cw_Law_64 : gwV "PoliteGathererLaw" 64 y_Mod_crash b_Mod_crash 3 (some .int) 0 := ⟨gWG_in (List.mem_append_right _ q694) rfl, gWG_in (List.mem_append_right _ q695) rfl, gWG_in (List.mem_append_right _ q696) rfl, gWG_in (List.mem_append_right _ q7) rfl, gWG_in (List.mem_append_right _ q697) rfl, by decide, by decide, by decide +kernel⟩
theorem cw_Law_72 : gwV "PoliteGathererLaw" 72 y_Mod_found b_Mod_found 2 (some .int) 1 := ⟨gWG_in (List.mem_append_right _ q698) rfl, gWG_in (List.mem_append_right _ q699) rfl, gWG_in (List.mem_append_right _ q700) rfl, gWG_in (List.mem_append_right _ q7) rfl, gWG_in (List.mem_append_right _ q701) rfl, by decide, by decide, by decide +kernel⟩
theorem cw_Law_76 : gwV "PoliteGathererLaw" 76 y_Mod_clock b_Mod_clock 1 (some .int) 0 := ⟨gWG_in (List.mem_append_right _ q702) rfl, gWG_in (List.mem_append_right _ q703) rfl, gWG_in (List.mem_append_right _ q704) rfl, gWG_in (List.mem_append_right _ q7) rfl, gWG_in (List.mem_append_right _ q705) rfl, by decide, by decide, by decide +kernel⟩
theorem cw_Law_80 : gwV "PoliteGathererLaw" 80 y_Mod_fetches b_Mod_fetches 1 (some .int) 0 := ⟨gWG_in (List.mem_append_right _ q706) rfl, gWG_in (List.mem_append_right _ q707) rfl, gWG_in (List.mem_append_right _ q708) rfl, gWG_in (List.mem_append_right _ q7) rfl, gWG_in (List.mem_append_right _ q709) rfl, by decide, by decide, by decide +kernel⟩
theorem cw_Law_84 : gwV "PoliteGathererLaw" 84 y_Mod_waiting b_Mod_waiting 1 (some .int) 0 := ⟨gWG_in (List.mem_append_right _ q710) rfl, gWG_in (List.mem_append_right _ q711) rfl, gWG_in (List.mem_append_right _ q712) rfl, gWG_in (List.mem_append_right _ q7) rfl, gWG_in (List.mem_append_right _ q713) rfl, by decide, by decide, by decide +kernel⟩
theorem cw_Law_88 : gwV "PoliteGathererLaw" 88 y_Mod_corpusAt b_Mod_corpusAt 2 (some .int) 1 := ⟨gWG_in (List.mem_append_right _ q714) rfl, gWG_in (List.mem_append_right _ q715) rfl, gWG_in (List.mem_append_right _ q716) rfl, gWG_in (List.mem_append_right _ q7) rfl, gWG_in (List.mem_append_right _ q717) rfl, by decide, by decide, by decide +kernel⟩
theorem cw_Law_92 : gwV "PoliteGathererLaw" 92 y_Mod_document b_Mod_document 3 (some .int) 1 := ⟨gWG_in (List.mem_append_right _ q718) rfl, gWG_in (List.mem_append_right _ q719) rfl, gWG_in (List.mem_append_right _ q720) rfl, gWG_in (List.mem_append_right _ q7) rfl, gWG_in (List.mem_append_right _ q721) rfl, by decide, by decide, by decide +kernel⟩
theorem cw_Law_97 : gwV "PoliteGathererLaw" 97 y_Mod_rank b_Mod_rank 3 (some .long) 2 := ⟨gWG_in (List.mem_append_right _ q726) rfl, gWG_in (List.mem_append_right _ q727) rfl, gWG_in (List.mem_append_right _ q728) rfl, gWG_in (List.mem_append_right _ q7) rfl, gWG_in (List.mem_append_right _ q729) rfl, by decide, by decide, by decide +kernel⟩
theorem cw_Law_102 : gwV "PoliteGathererLaw" 102 y_Mod_best b_Mod_best 9 (some .int) 3 := ⟨gWG_in (List.mem_append_right _ q747) rfl, gWG_in (List.mem_append_right _ q748) rfl, gWG_in (List.mem_append_right _ q749) rfl, gWG_in (List.mem_append_right _ q7) rfl, gWG_in (List.mem_append_right _ q750) rfl, by decide, by decide, by decide +kernel⟩
theorem nI_p1 (i : Nat) : nI i + 1 = nI (i + 1) := nI_inc i
theorem nI_p2 (i : Nat) : nI i + 2 = nI (i + 2) := by rw [show (2 : Int32) = 1 + 1 from rfl, ← Int32.add_assoc, nI_p1, nI_p1]
theorem nI_p3 (i : Nat) : nI i + 3 = nI (i + 3) := by rw [show (3 : Int32) = 2 + 1 from rfl, ← Int32.add_assoc, nI_p2, nI_p1]
theorem nI_p4 (i : Nat) : nI i + 4 = nI (i + 4) := by rw [show (4 : Int32) = 3 + 1 from rfl, ← Int32.add_assoc, nI_p3, nI_p1]
theorem nI_p5 (i : Nat) : nI i + 5 = nI (i + 5) := by rw [show (5 : Int32) = 4 + 1 from rfl, ← Int32.add_assoc, nI_p4, nI_p1]
theorem lw_in {i L j : Nat} {k : Int32} (hk : nI i + k = nI (i + j)) (hj : i + j < L) (hL : L ≤ 2560) : vp_in (nI i + k) L := by rw [hk]; exact vp_in_nI hj (by omega)
/-- between two calls of the law: the two objects hold the same -/
def lI (g : gG) (A : Nat → Prop) (h1 h2 : Nat) (H : Heap) : Prop := ∃ (ad : Nat → Nat) (np : Nat) (a x : gA) (o : gL) (xm : gA) (om : gL), ad 0 = h1 ∧ ad 74 = h2 ∧ gW g A ad np (a, x, o) (a, xm, om) H ∧ gI np a x

set_option maxHeartbeats 1000000 in
set_option maxRecDepth 20000 in
theorem LC_page (l : Launch) {p : Program} {e : Env} {s : State} {m : MethodId} {args : Array Value} {below : List Frame} {meth : Method} {c : Code} {H : Heap} {locs : List Loc} {cells slots : Nat} {Q : State → Prop} {ls : Array Slot} {g : gG} {A : Nat → Prop} {b L i h1 h2 : Nat} {xs : Nat → Int32} (X : gcx g A p s m args c code 4 "PoliteGathererLaw") (hXs : va_X b L xs s s.heap) (hbl : b < s.heap.size) (hbA : ¬ A b) (hA : ∀ q, s.heap.size ≤ q → A q) (hO : nO s) (hI : lI g A h1 h2 H) (hS : va_S A s.heap H locs) (hl : lv_has ls 4 [(0, .ref b), (1, .ref h1), (2, .ref h2), (3, .int (nI i))]) (hi : i + 5 ≤ L) (hL : L ≤ 2560) (hc : cells + 5 ≤ 600000) (hs : slots + 25 ≤ 7302250)
    (kk : ∀ (H1 : Heap) (locs1 : List Loc), lI g A h1 h2 H1 → va_S A s.heap H1 locs1 → W p l e room_1 s m args below meth c H1 locs1 (cells + 5) (slots + 25) Q (F0 m 675 ls [])) : W p l e room_1 s m args below meth c H locs cells slots Q (F0 m 128 ls []) := by
  have hx := X.1.1
  have hb := X.1.2.1
  have hK := X.2.1
  obtain ⟨ad, np, a, x, o, xm, om, rfl, rfl, hW, hI⟩ := hI
  refine lv_aload_n hx hb d_Law_128 rfl (lv_at hl 1 rfl) ?_
  refine lv_aload_n hx hb d_Law_129 rfl (lv_at hl 0 rfl) ?_
  refine lv_iload_n hx hb d_Law_130 rfl (lv_at hl 3 rfl) ?_
  refine lv_iconst (v := 1) hx hb d_Law_131 (by decide) ?_
  refine lv_iadd hx hb d_Law_132 ?_
  refine va_sld hx hb hXs hbl hbA hS (lw_in (nI_p1 i) (by omega) hL) d_Law_133 ?_
  refine lv_aload_n hx hb d_Law_134 rfl (lv_at hl 0 rfl) ?_
  refine lv_iload_n hx hb d_Law_135 rfl (lv_at hl 3 rfl) ?_
  refine lv_iconst (v := 2) hx hb d_Law_136 (by decide) ?_
  refine lv_iadd hx hb d_Law_137 ?_
  refine va_sld hx hb hXs hbl hbA hS (lw_in (nI_p2 i) (by omega) hL) d_Law_138 ?_
  refine gc_pV (b := ad 0) (As := [.int (xs (nI i + 1).toNatClampNeg), .int (xs (nI i + 2).toNatClampNeg)]) (rest := []) X cw_Law_13 (C_PG_page l hI.1) hW hS hA hO (gW_recv (ci := 0) (fs := gf0 ad) hK hW (by omega) (fun σ τ => ge_0 rfl σ τ) (r := (R_PG, F_PG, 4)) rfl) ⟨Nat.le_of_ble_eq_true rfl, Nat.le_of_ble_eq_true rfl⟩ rfl hl.1 rfl (Nat.le_of_ble_eq_true rfl) d_Law_139 ⟨(show cells + 5 ≤ 600000 by omega), (show slots + 23 ≤ 7302250 by omega)⟩ (fun r t H locs hp9 hW hS => ?_)
  obtain ⟨ad2, t2⟩ := t
  obtain ⟨rfl, had, e9⟩ := hp9
  cases e9
  have had : ∀ k, k < 94 → ad2 k = ad k := had
  have hW : gW g A ad2 (nP a np (xs (nI i + 1).toNatClampNeg) (xs (nI i + 2).toNatClampNeg)) (sP a (xs (nI i + 1).toNatClampNeg) (xs (nI i + 2).toNatClampNeg), xP a x (xs (nI i + 1).toNatClampNeg) (xs (nI i + 2).toNatClampNeg), o) (a, xm, om) H := hW
  have hl : lv_has ls 4 [(0, .ref b), (1, .ref (ad 0)), (2, .ref (ad2 74)), (3, .int (nI i))] := by rw [had 74 (by decide)]; exact hl
  refine lv_aload_n hx hb d_Law_142 rfl (lv_at hl 2 rfl) ?_
  refine lv_aload_n hx hb d_Law_143 rfl (lv_at hl 0 rfl) ?_
  refine lv_iload_n hx hb d_Law_144 rfl (lv_at hl 3 rfl) ?_
  refine lv_iconst (v := 1) hx hb d_Law_145 (by decide) ?_
  refine lv_iadd hx hb d_Law_146 ?_
  refine va_sld hx hb hXs hbl hbA hS (lw_in (nI_p1 i) (by omega) hL) d_Law_147 ?_
  refine lv_aload_n hx hb d_Law_148 rfl (lv_at hl 0 rfl) ?_
  refine lv_iload_n hx hb d_Law_149 rfl (lv_at hl 3 rfl) ?_
  refine lv_iconst (v := 2) hx hb d_Law_150 (by decide) ?_
  refine lv_iadd hx hb d_Law_151 ?_
  refine va_sld hx hb hXs hbl hbA hS (lw_in (nI_p2 i) (by omega) hL) d_Law_152 ?_
  refine gc_iV (b := ad2 74) (As := [.int (xs (nI i + 1).toNatClampNeg), .int (xs (nI i + 2).toNatClampNeg)]) (rest := [.int (rP a (xs (nI i + 1).toNatClampNeg) (xs (nI i + 2).toNatClampNeg))]) X cw_Law_17 (C_Mod_page l hI.1) hW hS (gW_recv (ci := 7) (fs := gf7 ad2) hK hW (by omega) (fun σ τ => ge_7 rfl σ τ) (r := (R_Mod, F_Mod, 37)) rfl) ⟨Nat.le_of_ble_eq_true rfl, Nat.le_of_ble_eq_true rfl⟩ rfl hl.1 rfl (Nat.le_of_ble_eq_true rfl) d_Law_153 ⟨(show cells + 5 + 0 ≤ 600000 by omega), (show slots + 23 + 0 ≤ 7302250 by omega)⟩ (fun r t H locs hp8 hW hS => ?_)
  obtain ⟨rfl, rfl⟩ := hp8
  have hW : gW g A ad2 (nP a np (xs (nI i + 1).toNatClampNeg) (xs (nI i + 2).toNatClampNeg)) (sP a (xs (nI i + 1).toNatClampNeg) (xs (nI i + 2).toNatClampNeg), xP a x (xs (nI i + 1).toNatClampNeg) (xs (nI i + 2).toNatClampNeg), o) (sP a (xs (nI i + 1).toNatClampNeg) (xs (nI i + 2).toNatClampNeg), xm, om) H := hW
  refine lv_icmp_eq (tgt := 675) hx hb d_Law_156 (by decide) (fun h => ?_) (fun h => absurd rfl h)
  exact W.widen (by omega) (by omega) (kk _ _ ⟨ad2, _, _, _, _, _, _, had 0 (by decide), had 74 (by decide), hW, gI_P hI⟩ hS)
set_option maxHeartbeats 1000000 in
set_option maxRecDepth 20000 in
theorem LC_write (l : Launch) {p : Program} {e : Env} {s : State} {m : MethodId} {args : Array Value} {below : List Frame} {meth : Method} {c : Code} {H : Heap} {locs : List Loc} {cells slots : Nat} {Q : State → Prop} {ls : Array Slot} {g : gG} {A : Nat → Prop} {b L i h1 h2 : Nat} {xs : Nat → Int32} (X : gcx g A p s m args c code 4 "PoliteGathererLaw") (hXs : va_X b L xs s s.heap) (hbl : b < s.heap.size) (hbA : ¬ A b) (hA : ∀ q, s.heap.size ≤ q → A q) (hO : nO s) (hI : lI g A h1 h2 H) (hS : va_S A s.heap H locs) (hl : lv_has ls 4 [(0, .ref b), (1, .ref h1), (2, .ref h2), (3, .int (nI i))]) (hi : i + 5 ≤ L) (hL : L ≤ 2560) (hc : cells + 5 ≤ 600000) (hs : slots + 25 ≤ 7302250)
    (kk : ∀ (H1 : Heap) (locs1 : List Loc), lI g A h1 h2 H1 → va_S A s.heap H1 locs1 → W p l e room_1 s m args below meth c H1 locs1 (cells + 5) (slots + 25) Q (F0 m 675 ls [])) : W p l e room_1 s m args below meth c H locs cells slots Q (F0 m 161 ls []) := by
  have hx := X.1.1
  have hb := X.1.2.1
  have hK := X.2.1
  obtain ⟨ad, np, a, x, o, xm, om, rfl, rfl, hW, hI⟩ := hI
  refine lv_aload_n hx hb d_Law_161 rfl (lv_at hl 1 rfl) ?_
  refine lv_aload_n hx hb d_Law_162 rfl (lv_at hl 0 rfl) ?_
  refine lv_iload_n hx hb d_Law_163 rfl (lv_at hl 3 rfl) ?_
  refine lv_iconst (v := 1) hx hb d_Law_164 (by decide) ?_
  refine lv_iadd hx hb d_Law_165 ?_
  refine va_sld hx hb hXs hbl hbA hS (lw_in (nI_p1 i) (by omega) hL) d_Law_166 ?_
  refine lv_aload_n hx hb d_Law_167 rfl (lv_at hl 0 rfl) ?_
  refine lv_iload_n hx hb d_Law_168 rfl (lv_at hl 3 rfl) ?_
  refine lv_iconst (v := 2) hx hb d_Law_169 (by decide) ?_
  refine lv_iadd hx hb d_Law_170 ?_
  refine va_sld hx hb hXs hbl hbA hS (lw_in (nI_p2 i) (by omega) hL) d_Law_171 ?_
  refine gc_iV (b := ad 0) (As := [.int (xs (nI i + 1).toNatClampNeg), .int (xs (nI i + 2).toNatClampNeg)]) (rest := []) X cw_Law_18 (C_PG_write l hI.1) hW hS (gW_recv (ci := 0) (fs := gf0 ad) hK hW (by omega) (fun σ τ => ge_0 rfl σ τ) (r := (R_PG, F_PG, 4)) rfl) ⟨Nat.le_of_ble_eq_true rfl, Nat.le_of_ble_eq_true rfl⟩ rfl hl.1 rfl (Nat.le_of_ble_eq_true rfl) d_Law_172 ⟨(show cells + 0 ≤ 600000 by omega), (show slots + 0 ≤ 7302250 by omega)⟩ (fun r t H locs hp9 hW hS => ?_)
  obtain ⟨x1, o1, rfl, rfl, hI1⟩ : ∃ x1 o1, t = (((sW a (xs (nI i + 1).toNatClampNeg) (xs (nI i + 2).toNatClampNeg)), x1, o1), (a, xm, om)) ∧ r = (bI (pW a (xs (nI i + 1).toNatClampNeg) (xs (nI i + 2).toNatClampNeg))) ∧ gI np (sW a (xs (nI i + 1).toNatClampNeg) (xs (nI i + 2).toNatClampNeg)) x1 := ⟨x, o, hp9.1, hp9.2, gI_W hI⟩
  have hW : gW g A ad np ((sW a (xs (nI i + 1).toNatClampNeg) (xs (nI i + 2).toNatClampNeg)), x1, o1) (a, xm, om) H := hW
  refine lv_aload_n hx hb d_Law_175 rfl (lv_at hl 2 rfl) ?_
  refine lv_aload_n hx hb d_Law_176 rfl (lv_at hl 0 rfl) ?_
  refine lv_iload_n hx hb d_Law_177 rfl (lv_at hl 3 rfl) ?_
  refine lv_iconst (v := 1) hx hb d_Law_178 (by decide) ?_
  refine lv_iadd hx hb d_Law_179 ?_
  refine va_sld hx hb hXs hbl hbA hS (lw_in (nI_p1 i) (by omega) hL) d_Law_180 ?_
  refine lv_aload_n hx hb d_Law_181 rfl (lv_at hl 0 rfl) ?_
  refine lv_iload_n hx hb d_Law_182 rfl (lv_at hl 3 rfl) ?_
  refine lv_iconst (v := 2) hx hb d_Law_183 (by decide) ?_
  refine lv_iadd hx hb d_Law_184 ?_
  refine va_sld hx hb hXs hbl hbA hS (lw_in (nI_p2 i) (by omega) hL) d_Law_185 ?_
  refine gc_iV (b := ad 74) (As := [.int (xs (nI i + 1).toNatClampNeg), .int (xs (nI i + 2).toNatClampNeg)]) (rest := [.int (bI (pW a (xs (nI i + 1).toNatClampNeg) (xs (nI i + 2).toNatClampNeg)))]) X cw_Law_22 (C_Mod_write l hI.1) hW hS (gW_recv (ci := 7) (fs := gf7 ad) hK hW (by omega) (fun σ τ => ge_7 rfl σ τ) (r := (R_Mod, F_Mod, 37)) rfl) ⟨Nat.le_of_ble_eq_true rfl, Nat.le_of_ble_eq_true rfl⟩ rfl hl.1 rfl (Nat.le_of_ble_eq_true rfl) d_Law_186 ⟨(show cells + 0 ≤ 600000 by omega), (show slots + 0 ≤ 7302250 by omega)⟩ (fun r t H locs hp8 hW hS => ?_)
  obtain ⟨x2, o2, rfl, rfl⟩ : ∃ x2 o2, t = (((sW a (xs (nI i + 1).toNatClampNeg) (xs (nI i + 2).toNatClampNeg)), x1, o1), ((sW a (xs (nI i + 1).toNatClampNeg) (xs (nI i + 2).toNatClampNeg)), x2, o2)) ∧ r = (bI (pW a (xs (nI i + 1).toNatClampNeg) (xs (nI i + 2).toNatClampNeg))) := ⟨xm, om, hp8.1, hp8.2⟩
  have hW : gW g A ad np ((sW a (xs (nI i + 1).toNatClampNeg) (xs (nI i + 2).toNatClampNeg)), x1, o1) ((sW a (xs (nI i + 1).toNatClampNeg) (xs (nI i + 2).toNatClampNeg)), x2, o2) H := hW
  refine lv_icmp_eq (tgt := 675) hx hb d_Law_189 (by decide) (fun h => ?_) (fun h => absurd rfl h)
  exact W.widen (by omega) (by omega) (kk _ _ ⟨ad, np, _, _, _, _, _, rfl, rfl, hW, hI1⟩ hS)
set_option maxHeartbeats 1000000 in
set_option maxRecDepth 20000 in
theorem LC_link (l : Launch) {p : Program} {e : Env} {s : State} {m : MethodId} {args : Array Value} {below : List Frame} {meth : Method} {c : Code} {H : Heap} {locs : List Loc} {cells slots : Nat} {Q : State → Prop} {ls : Array Slot} {g : gG} {A : Nat → Prop} {b L i h1 h2 : Nat} {xs : Nat → Int32} (X : gcx g A p s m args c code 4 "PoliteGathererLaw") (hXs : va_X b L xs s s.heap) (hbl : b < s.heap.size) (hbA : ¬ A b) (hA : ∀ q, s.heap.size ≤ q → A q) (hO : nO s) (hI : lI g A h1 h2 H) (hS : va_S A s.heap H locs) (hl : lv_has ls 4 [(0, .ref b), (1, .ref h1), (2, .ref h2), (3, .int (nI i))]) (hi : i + 5 ≤ L) (hL : L ≤ 2560) (hc : cells + 5 ≤ 600000) (hs : slots + 25 ≤ 7302250)
    (kk : ∀ (H1 : Heap) (locs1 : List Loc), lI g A h1 h2 H1 → va_S A s.heap H1 locs1 → W p l e room_1 s m args below meth c H1 locs1 (cells + 5) (slots + 25) Q (F0 m 675 ls [])) : W p l e room_1 s m args below meth c H locs cells slots Q (F0 m 194 ls []) := by
  have hx := X.1.1
  have hb := X.1.2.1
  have hK := X.2.1
  obtain ⟨ad, np, a, x, o, xm, om, rfl, rfl, hW, hI⟩ := hI
  refine lv_aload_n hx hb d_Law_194 rfl (lv_at hl 1 rfl) ?_
  refine lv_aload_n hx hb d_Law_195 rfl (lv_at hl 0 rfl) ?_
  refine lv_iload_n hx hb d_Law_196 rfl (lv_at hl 3 rfl) ?_
  refine lv_iconst (v := 1) hx hb d_Law_197 (by decide) ?_
  refine lv_iadd hx hb d_Law_198 ?_
  refine va_sld hx hb hXs hbl hbA hS (lw_in (nI_p1 i) (by omega) hL) d_Law_199 ?_
  refine lv_aload_n hx hb d_Law_200 rfl (lv_at hl 0 rfl) ?_
  refine lv_iload_n hx hb d_Law_201 rfl (lv_at hl 3 rfl) ?_
  refine lv_iconst (v := 2) hx hb d_Law_202 (by decide) ?_
  refine lv_iadd hx hb d_Law_203 ?_
  refine va_sld hx hb hXs hbl hbA hS (lw_in (nI_p2 i) (by omega) hL) d_Law_204 ?_
  refine gc_iV (b := ad 0) (As := [.int (xs (nI i + 1).toNatClampNeg), .int (xs (nI i + 2).toNatClampNeg)]) (rest := []) X cw_Law_23 (C_PG_link l hI.1) hW hS (gW_recv (ci := 0) (fs := gf0 ad) hK hW (by omega) (fun σ τ => ge_0 rfl σ τ) (r := (R_PG, F_PG, 4)) rfl) ⟨Nat.le_of_ble_eq_true rfl, Nat.le_of_ble_eq_true rfl⟩ rfl hl.1 rfl (Nat.le_of_ble_eq_true rfl) d_Law_205 ⟨(show cells + 0 ≤ 600000 by omega), (show slots + 0 ≤ 7302250 by omega)⟩ (fun r t H locs hp9 hW hS => ?_)
  obtain ⟨x1, o1, rfl, rfl, hI1⟩ : ∃ x1 o1, t = (((sK a (xs (nI i + 1).toNatClampNeg) (xs (nI i + 2).toNatClampNeg)), x1, o1), (a, xm, om)) ∧ r = (bI (pK a (xs (nI i + 1).toNatClampNeg) (xs (nI i + 2).toNatClampNeg))) ∧ gI np (sK a (xs (nI i + 1).toNatClampNeg) (xs (nI i + 2).toNatClampNeg)) x1 := ⟨x, o, hp9.1, hp9.2, gI_K hI⟩
  have hW : gW g A ad np ((sK a (xs (nI i + 1).toNatClampNeg) (xs (nI i + 2).toNatClampNeg)), x1, o1) (a, xm, om) H := hW
  refine lv_aload_n hx hb d_Law_208 rfl (lv_at hl 2 rfl) ?_
  refine lv_aload_n hx hb d_Law_209 rfl (lv_at hl 0 rfl) ?_
  refine lv_iload_n hx hb d_Law_210 rfl (lv_at hl 3 rfl) ?_
  refine lv_iconst (v := 1) hx hb d_Law_211 (by decide) ?_
  refine lv_iadd hx hb d_Law_212 ?_
  refine va_sld hx hb hXs hbl hbA hS (lw_in (nI_p1 i) (by omega) hL) d_Law_213 ?_
  refine lv_aload_n hx hb d_Law_214 rfl (lv_at hl 0 rfl) ?_
  refine lv_iload_n hx hb d_Law_215 rfl (lv_at hl 3 rfl) ?_
  refine lv_iconst (v := 2) hx hb d_Law_216 (by decide) ?_
  refine lv_iadd hx hb d_Law_217 ?_
  refine va_sld hx hb hXs hbl hbA hS (lw_in (nI_p2 i) (by omega) hL) d_Law_218 ?_
  refine gc_iV (b := ad 74) (As := [.int (xs (nI i + 1).toNatClampNeg), .int (xs (nI i + 2).toNatClampNeg)]) (rest := [.int (bI (pK a (xs (nI i + 1).toNatClampNeg) (xs (nI i + 2).toNatClampNeg)))]) X cw_Law_26 (C_Mod_link l hI.1) hW hS (gW_recv (ci := 7) (fs := gf7 ad) hK hW (by omega) (fun σ τ => ge_7 rfl σ τ) (r := (R_Mod, F_Mod, 37)) rfl) ⟨Nat.le_of_ble_eq_true rfl, Nat.le_of_ble_eq_true rfl⟩ rfl hl.1 rfl (Nat.le_of_ble_eq_true rfl) d_Law_219 ⟨(show cells + 0 ≤ 600000 by omega), (show slots + 0 ≤ 7302250 by omega)⟩ (fun r t H locs hp8 hW hS => ?_)
  obtain ⟨x2, o2, rfl, rfl⟩ : ∃ x2 o2, t = (((sK a (xs (nI i + 1).toNatClampNeg) (xs (nI i + 2).toNatClampNeg)), x1, o1), ((sK a (xs (nI i + 1).toNatClampNeg) (xs (nI i + 2).toNatClampNeg)), x2, o2)) ∧ r = (bI (pK a (xs (nI i + 1).toNatClampNeg) (xs (nI i + 2).toNatClampNeg))) := ⟨xm, om, hp8.1, hp8.2⟩
  have hW : gW g A ad np ((sK a (xs (nI i + 1).toNatClampNeg) (xs (nI i + 2).toNatClampNeg)), x1, o1) ((sK a (xs (nI i + 1).toNatClampNeg) (xs (nI i + 2).toNatClampNeg)), x2, o2) H := hW
  refine lv_icmp_eq (tgt := 675) hx hb d_Law_222 (by decide) (fun h => ?_) (fun h => absurd rfl h)
  exact W.widen (by omega) (by omega) (kk _ _ ⟨ad, np, _, _, _, _, _, rfl, rfl, hW, hI1⟩ hS)
set_option maxHeartbeats 1000000 in
set_option maxRecDepth 20000 in
theorem LC_move (l : Launch) {p : Program} {e : Env} {s : State} {m : MethodId} {args : Array Value} {below : List Frame} {meth : Method} {c : Code} {H : Heap} {locs : List Loc} {cells slots : Nat} {Q : State → Prop} {ls : Array Slot} {g : gG} {A : Nat → Prop} {b L i h1 h2 : Nat} {xs : Nat → Int32} (X : gcx g A p s m args c code 4 "PoliteGathererLaw") (hXs : va_X b L xs s s.heap) (hbl : b < s.heap.size) (hbA : ¬ A b) (hA : ∀ q, s.heap.size ≤ q → A q) (hO : nO s) (hI : lI g A h1 h2 H) (hS : va_S A s.heap H locs) (hl : lv_has ls 4 [(0, .ref b), (1, .ref h1), (2, .ref h2), (3, .int (nI i))]) (hi : i + 5 ≤ L) (hL : L ≤ 2560) (hc : cells + 5 ≤ 600000) (hs : slots + 25 ≤ 7302250)
    (kk : ∀ (H1 : Heap) (locs1 : List Loc), lI g A h1 h2 H1 → va_S A s.heap H1 locs1 → W p l e room_1 s m args below meth c H1 locs1 (cells + 5) (slots + 25) Q (F0 m 675 ls [])) : W p l e room_1 s m args below meth c H locs cells slots Q (F0 m 227 ls []) := by
  have hx := X.1.1
  have hb := X.1.2.1
  have hK := X.2.1
  obtain ⟨ad, np, a, x, o, xm, om, rfl, rfl, hW, hI⟩ := hI
  refine lv_aload_n hx hb d_Law_227 rfl (lv_at hl 1 rfl) ?_
  refine lv_aload_n hx hb d_Law_228 rfl (lv_at hl 0 rfl) ?_
  refine lv_iload_n hx hb d_Law_229 rfl (lv_at hl 3 rfl) ?_
  refine lv_iconst (v := 1) hx hb d_Law_230 (by decide) ?_
  refine lv_iadd hx hb d_Law_231 ?_
  refine va_sld hx hb hXs hbl hbA hS (lw_in (nI_p1 i) (by omega) hL) d_Law_232 ?_
  refine lv_aload_n hx hb d_Law_233 rfl (lv_at hl 0 rfl) ?_
  refine lv_iload_n hx hb d_Law_234 rfl (lv_at hl 3 rfl) ?_
  refine lv_iconst (v := 2) hx hb d_Law_235 (by decide) ?_
  refine lv_iadd hx hb d_Law_236 ?_
  refine va_sld hx hb hXs hbl hbA hS (lw_in (nI_p2 i) (by omega) hL) d_Law_237 ?_
  refine gc_iV (b := ad 0) (As := [.int (xs (nI i + 1).toNatClampNeg), .int (xs (nI i + 2).toNatClampNeg)]) (rest := []) X cw_Law_27 (C_PG_move l hI.1) hW hS (gW_recv (ci := 0) (fs := gf0 ad) hK hW (by omega) (fun σ τ => ge_0 rfl σ τ) (r := (R_PG, F_PG, 4)) rfl) ⟨Nat.le_of_ble_eq_true rfl, Nat.le_of_ble_eq_true rfl⟩ rfl hl.1 rfl (Nat.le_of_ble_eq_true rfl) d_Law_238 ⟨(show cells + 0 ≤ 600000 by omega), (show slots + 0 ≤ 7302250 by omega)⟩ (fun r t H locs hp9 hW hS => ?_)
  obtain ⟨x1, o1, rfl, rfl, hI1⟩ : ∃ x1 o1, t = (((sM a (xs (nI i + 1).toNatClampNeg) (xs (nI i + 2).toNatClampNeg)), x1, o1), (a, xm, om)) ∧ r = (bI (pM a (xs (nI i + 1).toNatClampNeg) (xs (nI i + 2).toNatClampNeg))) ∧ gI np (sM a (xs (nI i + 1).toNatClampNeg) (xs (nI i + 2).toNatClampNeg)) x1 := by
    by_cases hm : pM a (xs (nI i + 1).toNatClampNeg) (xs (nI i + 2).toNatClampNeg) = true
    · exact ⟨_, o, hp9.2.1 hm, hp9.1, (gI_M hI).1 hm⟩
    · exact ⟨x, o, hp9.2.2 (Bool.eq_false_iff.mpr hm), hp9.1, (gI_M hI).2 (Bool.eq_false_iff.mpr hm)⟩
  have hW : gW g A ad np ((sM a (xs (nI i + 1).toNatClampNeg) (xs (nI i + 2).toNatClampNeg)), x1, o1) (a, xm, om) H := hW
  refine lv_aload_n hx hb d_Law_241 rfl (lv_at hl 2 rfl) ?_
  refine lv_aload_n hx hb d_Law_242 rfl (lv_at hl 0 rfl) ?_
  refine lv_iload_n hx hb d_Law_243 rfl (lv_at hl 3 rfl) ?_
  refine lv_iconst (v := 1) hx hb d_Law_244 (by decide) ?_
  refine lv_iadd hx hb d_Law_245 ?_
  refine va_sld hx hb hXs hbl hbA hS (lw_in (nI_p1 i) (by omega) hL) d_Law_246 ?_
  refine lv_aload_n hx hb d_Law_247 rfl (lv_at hl 0 rfl) ?_
  refine lv_iload_n hx hb d_Law_248 rfl (lv_at hl 3 rfl) ?_
  refine lv_iconst (v := 2) hx hb d_Law_249 (by decide) ?_
  refine lv_iadd hx hb d_Law_250 ?_
  refine va_sld hx hb hXs hbl hbA hS (lw_in (nI_p2 i) (by omega) hL) d_Law_251 ?_
  refine gc_iV (b := ad 74) (As := [.int (xs (nI i + 1).toNatClampNeg), .int (xs (nI i + 2).toNatClampNeg)]) (rest := [.int (bI (pM a (xs (nI i + 1).toNatClampNeg) (xs (nI i + 2).toNatClampNeg)))]) X cw_Law_30 (C_Mod_move l hI.1) hW hS (gW_recv (ci := 7) (fs := gf7 ad) hK hW (by omega) (fun σ τ => ge_7 rfl σ τ) (r := (R_Mod, F_Mod, 37)) rfl) ⟨Nat.le_of_ble_eq_true rfl, Nat.le_of_ble_eq_true rfl⟩ rfl hl.1 rfl (Nat.le_of_ble_eq_true rfl) d_Law_252 ⟨(show cells + 0 ≤ 600000 by omega), (show slots + 0 ≤ 7302250 by omega)⟩ (fun r t H locs hp8 hW hS => ?_)
  obtain ⟨x2, o2, rfl, rfl⟩ : ∃ x2 o2, t = (((sM a (xs (nI i + 1).toNatClampNeg) (xs (nI i + 2).toNatClampNeg)), x1, o1), ((sM a (xs (nI i + 1).toNatClampNeg) (xs (nI i + 2).toNatClampNeg)), x2, o2)) ∧ r = (bI (pM a (xs (nI i + 1).toNatClampNeg) (xs (nI i + 2).toNatClampNeg))) := ⟨xm, om, hp8.1, hp8.2⟩
  have hW : gW g A ad np ((sM a (xs (nI i + 1).toNatClampNeg) (xs (nI i + 2).toNatClampNeg)), x1, o1) ((sM a (xs (nI i + 1).toNatClampNeg) (xs (nI i + 2).toNatClampNeg)), x2, o2) H := hW
  refine lv_icmp_eq (tgt := 675) hx hb d_Law_255 (by decide) (fun h => ?_) (fun h => absurd rfl h)
  exact W.widen (by omega) (by omega) (kk _ _ ⟨ad, np, _, _, _, _, _, rfl, rfl, hW, hI1⟩ hS)
set_option maxHeartbeats 1000000 in
set_option maxRecDepth 20000 in
theorem LC_drop (l : Launch) {p : Program} {e : Env} {s : State} {m : MethodId} {args : Array Value} {below : List Frame} {meth : Method} {c : Code} {H : Heap} {locs : List Loc} {cells slots : Nat} {Q : State → Prop} {ls : Array Slot} {g : gG} {A : Nat → Prop} {b L i h1 h2 : Nat} {xs : Nat → Int32} (X : gcx g A p s m args c code 4 "PoliteGathererLaw") (hXs : va_X b L xs s s.heap) (hbl : b < s.heap.size) (hbA : ¬ A b) (hA : ∀ q, s.heap.size ≤ q → A q) (hO : nO s) (hI : lI g A h1 h2 H) (hS : va_S A s.heap H locs) (hl : lv_has ls 4 [(0, .ref b), (1, .ref h1), (2, .ref h2), (3, .int (nI i))]) (hi : i + 5 ≤ L) (hL : L ≤ 2560) (hc : cells + 5 ≤ 600000) (hs : slots + 25 ≤ 7302250)
    (kk : ∀ (H1 : Heap) (locs1 : List Loc), lI g A h1 h2 H1 → va_S A s.heap H1 locs1 → W p l e room_1 s m args below meth c H1 locs1 (cells + 5) (slots + 25) Q (F0 m 675 ls [])) : W p l e room_1 s m args below meth c H locs cells slots Q (F0 m 260 ls []) := by
  have hx := X.1.1
  have hb := X.1.2.1
  have hK := X.2.1
  obtain ⟨ad, np, a, x, o, xm, om, rfl, rfl, hW, hI⟩ := hI
  refine lv_aload_n hx hb d_Law_260 rfl (lv_at hl 1 rfl) ?_
  refine lv_aload_n hx hb d_Law_261 rfl (lv_at hl 0 rfl) ?_
  refine lv_iload_n hx hb d_Law_262 rfl (lv_at hl 3 rfl) ?_
  refine lv_iconst (v := 1) hx hb d_Law_263 (by decide) ?_
  refine lv_iadd hx hb d_Law_264 ?_
  refine va_sld hx hb hXs hbl hbA hS (lw_in (nI_p1 i) (by omega) hL) d_Law_265 ?_
  refine gc_iV (b := ad 0) (As := [.int (xs (nI i + 1).toNatClampNeg)]) (rest := []) X cw_Law_31 (C_PG_drop l hI.1) hW hS (gW_recv (ci := 0) (fs := gf0 ad) hK hW (by omega) (fun σ τ => ge_0 rfl σ τ) (r := (R_PG, F_PG, 4)) rfl) ⟨Nat.le_of_ble_eq_true rfl, Nat.le_of_ble_eq_true rfl⟩ rfl hl.1 rfl (Nat.le_of_ble_eq_true rfl) d_Law_266 ⟨(show cells + 0 ≤ 600000 by omega), (show slots + 0 ≤ 7302250 by omega)⟩ (fun r t H locs hp9 hW hS => ?_)
  obtain ⟨x1, o1, rfl, rfl, hI1⟩ : ∃ x1 o1, t = (((sD a (xs (nI i + 1).toNatClampNeg)), x1, o1), (a, xm, om)) ∧ r = (bI (pD a (xs (nI i + 1).toNatClampNeg))) ∧ gI np (sD a (xs (nI i + 1).toNatClampNeg)) x1 := by
    by_cases hm : pD a (xs (nI i + 1).toNatClampNeg) = true
    · exact ⟨_, o, hp9.2.1 hm, hp9.1, (gI_D hI).1 hm⟩
    · exact ⟨x, o, hp9.2.2 (Bool.eq_false_iff.mpr hm), hp9.1, (gI_D hI).2 (Bool.eq_false_iff.mpr hm)⟩
  have hW : gW g A ad np ((sD a (xs (nI i + 1).toNatClampNeg)), x1, o1) (a, xm, om) H := hW
  refine lv_aload_n hx hb d_Law_269 rfl (lv_at hl 2 rfl) ?_
  refine lv_aload_n hx hb d_Law_270 rfl (lv_at hl 0 rfl) ?_
  refine lv_iload_n hx hb d_Law_271 rfl (lv_at hl 3 rfl) ?_
  refine lv_iconst (v := 1) hx hb d_Law_272 (by decide) ?_
  refine lv_iadd hx hb d_Law_273 ?_
  refine va_sld hx hb hXs hbl hbA hS (lw_in (nI_p1 i) (by omega) hL) d_Law_274 ?_
  refine gc_iV (b := ad 74) (As := [.int (xs (nI i + 1).toNatClampNeg)]) (rest := [.int (bI (pD a (xs (nI i + 1).toNatClampNeg)))]) X cw_Law_35 (C_Mod_drop l hI.1) hW hS (gW_recv (ci := 7) (fs := gf7 ad) hK hW (by omega) (fun σ τ => ge_7 rfl σ τ) (r := (R_Mod, F_Mod, 37)) rfl) ⟨Nat.le_of_ble_eq_true rfl, Nat.le_of_ble_eq_true rfl⟩ rfl hl.1 rfl (Nat.le_of_ble_eq_true rfl) d_Law_275 ⟨(show cells + 0 ≤ 600000 by omega), (show slots + 0 ≤ 7302250 by omega)⟩ (fun r t H locs hp8 hW hS => ?_)
  obtain ⟨x2, o2, rfl, rfl⟩ : ∃ x2 o2, t = (((sD a (xs (nI i + 1).toNatClampNeg)), x1, o1), ((sD a (xs (nI i + 1).toNatClampNeg)), x2, o2)) ∧ r = (bI (pD a (xs (nI i + 1).toNatClampNeg))) := ⟨xm, om, hp8.1, hp8.2⟩
  have hW : gW g A ad np ((sD a (xs (nI i + 1).toNatClampNeg)), x1, o1) ((sD a (xs (nI i + 1).toNatClampNeg)), x2, o2) H := hW
  refine lv_icmp_eq (tgt := 675) hx hb d_Law_278 (by decide) (fun h => ?_) (fun h => absurd rfl h)
  exact W.widen (by omega) (by omega) (kk _ _ ⟨ad, np, _, _, _, _, _, rfl, rfl, hW, hI1⟩ hS)
set_option maxHeartbeats 1000000 in
set_option maxRecDepth 20000 in
theorem LC_rule (l : Launch) {p : Program} {e : Env} {s : State} {m : MethodId} {args : Array Value} {below : List Frame} {meth : Method} {c : Code} {H : Heap} {locs : List Loc} {cells slots : Nat} {Q : State → Prop} {ls : Array Slot} {g : gG} {A : Nat → Prop} {b L i h1 h2 : Nat} {xs : Nat → Int32} (X : gcx g A p s m args c code 4 "PoliteGathererLaw") (hXs : va_X b L xs s s.heap) (hbl : b < s.heap.size) (hbA : ¬ A b) (hA : ∀ q, s.heap.size ≤ q → A q) (hO : nO s) (hI : lI g A h1 h2 H) (hS : va_S A s.heap H locs) (hl : lv_has ls 4 [(0, .ref b), (1, .ref h1), (2, .ref h2), (3, .int (nI i))]) (hi : i + 5 ≤ L) (hL : L ≤ 2560) (hc : cells + 5 ≤ 600000) (hs : slots + 25 ≤ 7302250)
    (kk : ∀ (H1 : Heap) (locs1 : List Loc), lI g A h1 h2 H1 → va_S A s.heap H1 locs1 → W p l e room_1 s m args below meth c H1 locs1 (cells + 5) (slots + 25) Q (F0 m 675 ls [])) : W p l e room_1 s m args below meth c H locs cells slots Q (F0 m 283 ls []) := by
  have hx := X.1.1
  have hb := X.1.2.1
  have hK := X.2.1
  obtain ⟨ad, np, a, x, o, xm, om, rfl, rfl, hW, hI⟩ := hI
  refine lv_aload_n hx hb d_Law_283 rfl (lv_at hl 1 rfl) ?_
  refine lv_aload_n hx hb d_Law_284 rfl (lv_at hl 0 rfl) ?_
  refine lv_iload_n hx hb d_Law_285 rfl (lv_at hl 3 rfl) ?_
  refine lv_iconst (v := 1) hx hb d_Law_286 (by decide) ?_
  refine lv_iadd hx hb d_Law_287 ?_
  refine va_sld hx hb hXs hbl hbA hS (lw_in (nI_p1 i) (by omega) hL) d_Law_288 ?_
  refine lv_aload_n hx hb d_Law_289 rfl (lv_at hl 0 rfl) ?_
  refine lv_iload_n hx hb d_Law_290 rfl (lv_at hl 3 rfl) ?_
  refine lv_iconst (v := 2) hx hb d_Law_291 (by decide) ?_
  refine lv_iadd hx hb d_Law_292 ?_
  refine va_sld hx hb hXs hbl hbA hS (lw_in (nI_p2 i) (by omega) hL) d_Law_293 ?_
  refine lv_aload_n hx hb d_Law_294 rfl (lv_at hl 0 rfl) ?_
  refine lv_iload_n hx hb d_Law_295 rfl (lv_at hl 3 rfl) ?_
  refine lv_iconst (v := 3) hx hb d_Law_296 (by decide) ?_
  refine lv_iadd hx hb d_Law_297 ?_
  refine va_sld hx hb hXs hbl hbA hS (lw_in (nI_p3 i) (by omega) hL) d_Law_298 ?_
  refine lv_if_eq (tgt := 306) hx hb d_Law_299 (by decide) (fun h3 => ?_) (fun h3 => ?_)
  · skip
    refine lv_iconst (v := 0) hx hb d_Law_306 (by decide) ?_
    refine gc_iV (b := ad 0) (As := [.int (xs (nI i + 1).toNatClampNeg), .int (xs (nI i + 2).toNatClampNeg), .int (bI false)]) (rest := []) X cw_Law_36 (C_PG_rule l (b := false) hI.1) hW hS (gW_recv (ci := 0) (fs := gf0 ad) hK hW (by omega) (fun σ τ => ge_0 rfl σ τ) (r := (R_PG, F_PG, 4)) rfl) ⟨Nat.le_of_ble_eq_true rfl, Nat.le_of_ble_eq_true rfl⟩ rfl hl.1 rfl (Nat.le_of_ble_eq_true rfl) d_Law_307 ⟨(show cells + 0 ≤ 600000 by omega), (show slots + 0 ≤ 7302250 by omega)⟩ (fun r t H locs hp9 hW hS => ?_)
    obtain ⟨x1, o1, rfl, rfl, hI1⟩ : ∃ x1 o1, t = (((sR a (xs (nI i + 1).toNatClampNeg) (xs (nI i + 2).toNatClampNeg) (bI false)), x1, o1), (a, xm, om)) ∧ r = (bI (pR a (xs (nI i + 1).toNatClampNeg) (xs (nI i + 2).toNatClampNeg))) ∧ gI np (sR a (xs (nI i + 1).toNatClampNeg) (xs (nI i + 2).toNatClampNeg) (bI false)) x1 := ⟨x, o, hp9.1, hp9.2, gI_R hI⟩
    have hW : gW g A ad np ((sR a (xs (nI i + 1).toNatClampNeg) (xs (nI i + 2).toNatClampNeg) (bI false)), x1, o1) (a, xm, om) H := hW
    refine lv_aload_n hx hb d_Law_310 rfl (lv_at hl 2 rfl) ?_
    refine lv_aload_n hx hb d_Law_311 rfl (lv_at hl 0 rfl) ?_
    refine lv_iload_n hx hb d_Law_312 rfl (lv_at hl 3 rfl) ?_
    refine lv_iconst (v := 1) hx hb d_Law_313 (by decide) ?_
    refine lv_iadd hx hb d_Law_314 ?_
    refine va_sld hx hb hXs hbl hbA hS (lw_in (nI_p1 i) (by omega) hL) d_Law_315 ?_
    refine lv_aload_n hx hb d_Law_316 rfl (lv_at hl 0 rfl) ?_
    refine lv_iload_n hx hb d_Law_317 rfl (lv_at hl 3 rfl) ?_
    refine lv_iconst (v := 2) hx hb d_Law_318 (by decide) ?_
    refine lv_iadd hx hb d_Law_319 ?_
    refine va_sld hx hb hXs hbl hbA hS (lw_in (nI_p2 i) (by omega) hL) d_Law_320 ?_
    refine lv_aload_n hx hb d_Law_321 rfl (lv_at hl 0 rfl) ?_
    refine lv_iload_n hx hb d_Law_322 rfl (lv_at hl 3 rfl) ?_
    refine lv_iconst (v := 3) hx hb d_Law_323 (by decide) ?_
    refine lv_iadd hx hb d_Law_324 ?_
    refine va_sld hx hb hXs hbl hbA hS (lw_in (nI_p3 i) (by omega) hL) d_Law_325 ?_
    refine lv_if_eq (tgt := 333) hx hb d_Law_326 (by decide) (fun h4 => ?_) (fun h4 => ?_)
    rotate_left
    · exact absurd h3 h4
    refine lv_iconst (v := 0) hx hb d_Law_333 (by decide) ?_
    refine gc_iV (b := ad 74) (As := [.int (xs (nI i + 1).toNatClampNeg), .int (xs (nI i + 2).toNatClampNeg), .int (bI false)]) (rest := [.int (bI (pR a (xs (nI i + 1).toNatClampNeg) (xs (nI i + 2).toNatClampNeg)))]) X cw_Law_40 (C_Mod_rule l (b := false) hI.1) hW hS (gW_recv (ci := 7) (fs := gf7 ad) hK hW (by omega) (fun σ τ => ge_7 rfl σ τ) (r := (R_Mod, F_Mod, 37)) rfl) ⟨Nat.le_of_ble_eq_true rfl, Nat.le_of_ble_eq_true rfl⟩ rfl hl.1 rfl (Nat.le_of_ble_eq_true rfl) d_Law_334 ⟨(show cells + 0 ≤ 600000 by omega), (show slots + 0 ≤ 7302250 by omega)⟩ (fun r t H locs hp8 hW hS => ?_)
    obtain ⟨x2, o2, rfl, rfl⟩ : ∃ x2 o2, t = (((sR a (xs (nI i + 1).toNatClampNeg) (xs (nI i + 2).toNatClampNeg) (bI false)), x1, o1), ((sR a (xs (nI i + 1).toNatClampNeg) (xs (nI i + 2).toNatClampNeg) (bI false)), x2, o2)) ∧ r = (bI (pR a (xs (nI i + 1).toNatClampNeg) (xs (nI i + 2).toNatClampNeg))) := ⟨xm, om, hp8.1, hp8.2⟩
    have hW : gW g A ad np ((sR a (xs (nI i + 1).toNatClampNeg) (xs (nI i + 2).toNatClampNeg) (bI false)), x1, o1) ((sR a (xs (nI i + 1).toNatClampNeg) (xs (nI i + 2).toNatClampNeg) (bI false)), x2, o2) H := hW
    refine lv_icmp_eq (tgt := 675) hx hb d_Law_337 (by decide) (fun h => ?_) (fun h => absurd rfl h)
    exact W.widen (by omega) (by omega) (kk _ _ ⟨ad, np, _, _, _, _, _, rfl, rfl, hW, hI1⟩ hS)
  · skip
    refine lv_iconst (v := 1) hx hb d_Law_302 (by decide) ?_
    refine lv_goto (tgt := 307) hx hb d_Law_303 (by decide) ?_
    refine gc_iV (b := ad 0) (As := [.int (xs (nI i + 1).toNatClampNeg), .int (xs (nI i + 2).toNatClampNeg), .int (bI true)]) (rest := []) X cw_Law_36 (C_PG_rule l (b := true) hI.1) hW hS (gW_recv (ci := 0) (fs := gf0 ad) hK hW (by omega) (fun σ τ => ge_0 rfl σ τ) (r := (R_PG, F_PG, 4)) rfl) ⟨Nat.le_of_ble_eq_true rfl, Nat.le_of_ble_eq_true rfl⟩ rfl hl.1 rfl (Nat.le_of_ble_eq_true rfl) d_Law_307 ⟨(show cells + 0 ≤ 600000 by omega), (show slots + 0 ≤ 7302250 by omega)⟩ (fun r t H locs hp9 hW hS => ?_)
    obtain ⟨x1, o1, rfl, rfl, hI1⟩ : ∃ x1 o1, t = (((sR a (xs (nI i + 1).toNatClampNeg) (xs (nI i + 2).toNatClampNeg) (bI true)), x1, o1), (a, xm, om)) ∧ r = (bI (pR a (xs (nI i + 1).toNatClampNeg) (xs (nI i + 2).toNatClampNeg))) ∧ gI np (sR a (xs (nI i + 1).toNatClampNeg) (xs (nI i + 2).toNatClampNeg) (bI true)) x1 := ⟨x, o, hp9.1, hp9.2, gI_R hI⟩
    have hW : gW g A ad np ((sR a (xs (nI i + 1).toNatClampNeg) (xs (nI i + 2).toNatClampNeg) (bI true)), x1, o1) (a, xm, om) H := hW
    refine lv_aload_n hx hb d_Law_310 rfl (lv_at hl 2 rfl) ?_
    refine lv_aload_n hx hb d_Law_311 rfl (lv_at hl 0 rfl) ?_
    refine lv_iload_n hx hb d_Law_312 rfl (lv_at hl 3 rfl) ?_
    refine lv_iconst (v := 1) hx hb d_Law_313 (by decide) ?_
    refine lv_iadd hx hb d_Law_314 ?_
    refine va_sld hx hb hXs hbl hbA hS (lw_in (nI_p1 i) (by omega) hL) d_Law_315 ?_
    refine lv_aload_n hx hb d_Law_316 rfl (lv_at hl 0 rfl) ?_
    refine lv_iload_n hx hb d_Law_317 rfl (lv_at hl 3 rfl) ?_
    refine lv_iconst (v := 2) hx hb d_Law_318 (by decide) ?_
    refine lv_iadd hx hb d_Law_319 ?_
    refine va_sld hx hb hXs hbl hbA hS (lw_in (nI_p2 i) (by omega) hL) d_Law_320 ?_
    refine lv_aload_n hx hb d_Law_321 rfl (lv_at hl 0 rfl) ?_
    refine lv_iload_n hx hb d_Law_322 rfl (lv_at hl 3 rfl) ?_
    refine lv_iconst (v := 3) hx hb d_Law_323 (by decide) ?_
    refine lv_iadd hx hb d_Law_324 ?_
    refine va_sld hx hb hXs hbl hbA hS (lw_in (nI_p3 i) (by omega) hL) d_Law_325 ?_
    refine lv_if_eq (tgt := 333) hx hb d_Law_326 (by decide) (fun h4 => ?_) (fun h4 => ?_)
    · exact absurd h4 h3
    refine lv_iconst (v := 1) hx hb d_Law_329 (by decide) ?_
    refine lv_goto (tgt := 334) hx hb d_Law_330 (by decide) ?_
    refine gc_iV (b := ad 74) (As := [.int (xs (nI i + 1).toNatClampNeg), .int (xs (nI i + 2).toNatClampNeg), .int (bI true)]) (rest := [.int (bI (pR a (xs (nI i + 1).toNatClampNeg) (xs (nI i + 2).toNatClampNeg)))]) X cw_Law_40 (C_Mod_rule l (b := true) hI.1) hW hS (gW_recv (ci := 7) (fs := gf7 ad) hK hW (by omega) (fun σ τ => ge_7 rfl σ τ) (r := (R_Mod, F_Mod, 37)) rfl) ⟨Nat.le_of_ble_eq_true rfl, Nat.le_of_ble_eq_true rfl⟩ rfl hl.1 rfl (Nat.le_of_ble_eq_true rfl) d_Law_334 ⟨(show cells + 0 ≤ 600000 by omega), (show slots + 0 ≤ 7302250 by omega)⟩ (fun r t H locs hp8 hW hS => ?_)
    obtain ⟨x2, o2, rfl, rfl⟩ : ∃ x2 o2, t = (((sR a (xs (nI i + 1).toNatClampNeg) (xs (nI i + 2).toNatClampNeg) (bI true)), x1, o1), ((sR a (xs (nI i + 1).toNatClampNeg) (xs (nI i + 2).toNatClampNeg) (bI true)), x2, o2)) ∧ r = (bI (pR a (xs (nI i + 1).toNatClampNeg) (xs (nI i + 2).toNatClampNeg))) := ⟨xm, om, hp8.1, hp8.2⟩
    have hW : gW g A ad np ((sR a (xs (nI i + 1).toNatClampNeg) (xs (nI i + 2).toNatClampNeg) (bI true)), x1, o1) ((sR a (xs (nI i + 1).toNatClampNeg) (xs (nI i + 2).toNatClampNeg) (bI true)), x2, o2) H := hW
    refine lv_icmp_eq (tgt := 675) hx hb d_Law_337 (by decide) (fun h => ?_) (fun h => absurd rfl h)
    exact W.widen (by omega) (by omega) (kk _ _ ⟨ad, np, _, _, _, _, _, rfl, rfl, hW, hI1⟩ hS)
set_option maxHeartbeats 1000000 in
set_option maxRecDepth 20000 in
theorem LC_first (l : Launch) {p : Program} {e : Env} {s : State} {m : MethodId} {args : Array Value} {below : List Frame} {meth : Method} {c : Code} {H : Heap} {locs : List Loc} {cells slots : Nat} {Q : State → Prop} {ls : Array Slot} {g : gG} {A : Nat → Prop} {b L i h1 h2 : Nat} {xs : Nat → Int32} (X : gcx g A p s m args c code 4 "PoliteGathererLaw") (hXs : va_X b L xs s s.heap) (hbl : b < s.heap.size) (hbA : ¬ A b) (hA : ∀ q, s.heap.size ≤ q → A q) (hO : nO s) (hI : lI g A h1 h2 H) (hS : va_S A s.heap H locs) (hl : lv_has ls 4 [(0, .ref b), (1, .ref h1), (2, .ref h2), (3, .int (nI i))]) (hi : i + 5 ≤ L) (hL : L ≤ 2560) (hc : cells + 5 ≤ 600000) (hs : slots + 25 ≤ 7302250)
    (kk : ∀ (H1 : Heap) (locs1 : List Loc), lI g A h1 h2 H1 → va_S A s.heap H1 locs1 → W p l e room_1 s m args below meth c H1 locs1 (cells + 5) (slots + 25) Q (F0 m 675 ls [])) : W p l e room_1 s m args below meth c H locs cells slots Q (F0 m 342 ls []) := by
  have hx := X.1.1
  have hb := X.1.2.1
  have hK := X.2.1
  obtain ⟨ad, np, a, x, o, xm, om, rfl, rfl, hW, hI⟩ := hI
  refine lv_aload_n hx hb d_Law_342 rfl (lv_at hl 1 rfl) ?_
  refine lv_aload_n hx hb d_Law_343 rfl (lv_at hl 0 rfl) ?_
  refine lv_iload_n hx hb d_Law_344 rfl (lv_at hl 3 rfl) ?_
  refine lv_iconst (v := 1) hx hb d_Law_345 (by decide) ?_
  refine lv_iadd hx hb d_Law_346 ?_
  refine va_sld hx hb hXs hbl hbA hS (lw_in (nI_p1 i) (by omega) hL) d_Law_347 ?_
  refine gc_iV (b := ad 0) (As := [.int (xs (nI i + 1).toNatClampNeg)]) (rest := []) X cw_Law_41 (C_PG_first l hI.1) hW hS (gW_recv (ci := 0) (fs := gf0 ad) hK hW (by omega) (fun σ τ => ge_0 rfl σ τ) (r := (R_PG, F_PG, 4)) rfl) ⟨Nat.le_of_ble_eq_true rfl, Nat.le_of_ble_eq_true rfl⟩ rfl hl.1 rfl (Nat.le_of_ble_eq_true rfl) d_Law_348 ⟨(show cells + 0 ≤ 600000 by omega), (show slots + 0 ≤ 7302250 by omega)⟩ (fun r t H locs hp9 hW hS => ?_)
  obtain ⟨x1, o1, rfl, rfl, hI1⟩ : ∃ x1 o1, t = (((sF a (xs (nI i + 1).toNatClampNeg)), x1, o1), (a, xm, om)) ∧ r = (bI (pF a (xs (nI i + 1).toNatClampNeg))) ∧ gI np (sF a (xs (nI i + 1).toNatClampNeg)) x1 := ⟨x, o, hp9.1, hp9.2, gI_F hI⟩
  have hW : gW g A ad np ((sF a (xs (nI i + 1).toNatClampNeg)), x1, o1) (a, xm, om) H := hW
  refine lv_aload_n hx hb d_Law_351 rfl (lv_at hl 2 rfl) ?_
  refine lv_aload_n hx hb d_Law_352 rfl (lv_at hl 0 rfl) ?_
  refine lv_iload_n hx hb d_Law_353 rfl (lv_at hl 3 rfl) ?_
  refine lv_iconst (v := 1) hx hb d_Law_354 (by decide) ?_
  refine lv_iadd hx hb d_Law_355 ?_
  refine va_sld hx hb hXs hbl hbA hS (lw_in (nI_p1 i) (by omega) hL) d_Law_356 ?_
  refine gc_iV (b := ad 74) (As := [.int (xs (nI i + 1).toNatClampNeg)]) (rest := [.int (bI (pF a (xs (nI i + 1).toNatClampNeg)))]) X cw_Law_44 (C_Mod_first l hI.1) hW hS (gW_recv (ci := 7) (fs := gf7 ad) hK hW (by omega) (fun σ τ => ge_7 rfl σ τ) (r := (R_Mod, F_Mod, 37)) rfl) ⟨Nat.le_of_ble_eq_true rfl, Nat.le_of_ble_eq_true rfl⟩ rfl hl.1 rfl (Nat.le_of_ble_eq_true rfl) d_Law_357 ⟨(show cells + 0 ≤ 600000 by omega), (show slots + 0 ≤ 7302250 by omega)⟩ (fun r t H locs hp8 hW hS => ?_)
  obtain ⟨x2, o2, rfl, rfl⟩ : ∃ x2 o2, t = (((sF a (xs (nI i + 1).toNatClampNeg)), x1, o1), ((sF a (xs (nI i + 1).toNatClampNeg)), x2, o2)) ∧ r = (bI (pF a (xs (nI i + 1).toNatClampNeg))) := ⟨xm, om, hp8.1, hp8.2⟩
  have hW : gW g A ad np ((sF a (xs (nI i + 1).toNatClampNeg)), x1, o1) ((sF a (xs (nI i + 1).toNatClampNeg)), x2, o2) H := hW
  refine lv_icmp_eq (tgt := 675) hx hb d_Law_360 (by decide) (fun h => ?_) (fun h => absurd rfl h)
  exact W.widen (by omega) (by omega) (kk _ _ ⟨ad, np, _, _, _, _, _, rfl, rfl, hW, hI1⟩ hS)
set_option maxHeartbeats 1000000 in
set_option maxRecDepth 20000 in
theorem LC_begin (l : Launch) {p : Program} {e : Env} {s : State} {m : MethodId} {args : Array Value} {below : List Frame} {meth : Method} {c : Code} {H : Heap} {locs : List Loc} {cells slots : Nat} {Q : State → Prop} {ls : Array Slot} {g : gG} {A : Nat → Prop} {b L i h1 h2 : Nat} {xs : Nat → Int32} (X : gcx g A p s m args c code 4 "PoliteGathererLaw") (hXs : va_X b L xs s s.heap) (hbl : b < s.heap.size) (hbA : ¬ A b) (hA : ∀ q, s.heap.size ≤ q → A q) (hO : nO s) (hI : lI g A h1 h2 H) (hS : va_S A s.heap H locs) (hl : lv_has ls 4 [(0, .ref b), (1, .ref h1), (2, .ref h2), (3, .int (nI i))]) (hi : i + 5 ≤ L) (hL : L ≤ 2560) (hc : cells + 5 ≤ 600000) (hs : slots + 25 ≤ 7302250)
    (kk : ∀ (H1 : Heap) (locs1 : List Loc), lI g A h1 h2 H1 → va_S A s.heap H1 locs1 → W p l e room_1 s m args below meth c H1 locs1 (cells + 5) (slots + 25) Q (F0 m 675 ls [])) : W p l e room_1 s m args below meth c H locs cells slots Q (F0 m 365 ls []) := by
  have hx := X.1.1
  have hb := X.1.2.1
  have hK := X.2.1
  obtain ⟨ad, np, a, x, o, xm, om, rfl, rfl, hW, hI⟩ := hI
  refine lv_aload_n hx hb d_Law_365 rfl (lv_at hl 1 rfl) ?_
  refine lv_aload_n hx hb d_Law_366 rfl (lv_at hl 0 rfl) ?_
  refine lv_iload_n hx hb d_Law_367 rfl (lv_at hl 3 rfl) ?_
  refine lv_iconst (v := 1) hx hb d_Law_368 (by decide) ?_
  refine lv_iadd hx hb d_Law_369 ?_
  refine va_sld hx hb hXs hbl hbA hS (lw_in (nI_p1 i) (by omega) hL) d_Law_370 ?_
  refine lv_aload_n hx hb d_Law_371 rfl (lv_at hl 0 rfl) ?_
  refine lv_iload_n hx hb d_Law_372 rfl (lv_at hl 3 rfl) ?_
  refine lv_iconst (v := 2) hx hb d_Law_373 (by decide) ?_
  refine lv_iadd hx hb d_Law_374 ?_
  refine va_sld hx hb hXs hbl hbA hS (lw_in (nI_p2 i) (by omega) hL) d_Law_375 ?_
  refine lv_aload_n hx hb d_Law_376 rfl (lv_at hl 0 rfl) ?_
  refine lv_iload_n hx hb d_Law_377 rfl (lv_at hl 3 rfl) ?_
  refine lv_iconst (v := 3) hx hb d_Law_378 (by decide) ?_
  refine lv_iadd hx hb d_Law_379 ?_
  refine va_sld hx hb hXs hbl hbA hS (lw_in (nI_p3 i) (by omega) hL) d_Law_380 ?_
  refine lv_aload_n hx hb d_Law_381 rfl (lv_at hl 0 rfl) ?_
  refine lv_iload_n hx hb d_Law_382 rfl (lv_at hl 3 rfl) ?_
  refine lv_iconst (v := 4) hx hb d_Law_383 (by decide) ?_
  refine lv_iadd hx hb d_Law_384 ?_
  refine va_sld hx hb hXs hbl hbA hS (lw_in (nI_p4 i) (by omega) hL) d_Law_385 ?_
  refine gc_iV (b := ad 0) (As := [.int (xs (nI i + 1).toNatClampNeg), .int (xs (nI i + 2).toNatClampNeg), .int (xs (nI i + 3).toNatClampNeg), .int (xs (nI i + 4).toNatClampNeg)]) (rest := []) X cw_Law_45 (C_PG_begin l hI.1 hI.2.2 hI.2.1) hW hS (gW_recv (ci := 0) (fs := gf0 ad) hK hW (by omega) (fun σ τ => ge_0 rfl σ τ) (r := (R_PG, F_PG, 4)) rfl) ⟨Nat.le_of_ble_eq_true rfl, Nat.le_of_ble_eq_true rfl⟩ rfl hl.1 rfl (Nat.le_of_ble_eq_true rfl) d_Law_386 ⟨(show cells + 0 ≤ 600000 by omega), (show slots + 0 ≤ 7302250 by omega)⟩ (fun r t H locs hp9 hW hS => ?_)
  obtain ⟨x1, o1, rfl, rfl, hI1⟩ : ∃ x1 o1, t = (((sB a (xs (nI i + 1).toNatClampNeg) (xs (nI i + 2).toNatClampNeg) (xs (nI i + 3).toNatClampNeg) (xs (nI i + 4).toNatClampNeg)), x1, o1), (a, xm, om)) ∧ r = (bI (pB a (xs (nI i + 1).toNatClampNeg) (xs (nI i + 2).toNatClampNeg) (xs (nI i + 3).toNatClampNeg) (xs (nI i + 4).toNatClampNeg))) ∧ gI np (sB a (xs (nI i + 1).toNatClampNeg) (xs (nI i + 2).toNatClampNeg) (xs (nI i + 3).toNatClampNeg) (xs (nI i + 4).toNatClampNeg)) x1 := by obtain ⟨h1, x1, h2, h3⟩ := hp9; exact ⟨x1, o, h2, h1, gI_B hI.1 hI.2.1 h3⟩
  have hW : gW g A ad np ((sB a (xs (nI i + 1).toNatClampNeg) (xs (nI i + 2).toNatClampNeg) (xs (nI i + 3).toNatClampNeg) (xs (nI i + 4).toNatClampNeg)), x1, o1) (a, xm, om) H := hW
  refine lv_aload_n hx hb d_Law_389 rfl (lv_at hl 2 rfl) ?_
  refine lv_aload_n hx hb d_Law_390 rfl (lv_at hl 0 rfl) ?_
  refine lv_iload_n hx hb d_Law_391 rfl (lv_at hl 3 rfl) ?_
  refine lv_iconst (v := 1) hx hb d_Law_392 (by decide) ?_
  refine lv_iadd hx hb d_Law_393 ?_
  refine va_sld hx hb hXs hbl hbA hS (lw_in (nI_p1 i) (by omega) hL) d_Law_394 ?_
  refine lv_aload_n hx hb d_Law_395 rfl (lv_at hl 0 rfl) ?_
  refine lv_iload_n hx hb d_Law_396 rfl (lv_at hl 3 rfl) ?_
  refine lv_iconst (v := 2) hx hb d_Law_397 (by decide) ?_
  refine lv_iadd hx hb d_Law_398 ?_
  refine va_sld hx hb hXs hbl hbA hS (lw_in (nI_p2 i) (by omega) hL) d_Law_399 ?_
  refine lv_aload_n hx hb d_Law_400 rfl (lv_at hl 0 rfl) ?_
  refine lv_iload_n hx hb d_Law_401 rfl (lv_at hl 3 rfl) ?_
  refine lv_iconst (v := 3) hx hb d_Law_402 (by decide) ?_
  refine lv_iadd hx hb d_Law_403 ?_
  refine va_sld hx hb hXs hbl hbA hS (lw_in (nI_p3 i) (by omega) hL) d_Law_404 ?_
  refine lv_aload_n hx hb d_Law_405 rfl (lv_at hl 0 rfl) ?_
  refine lv_iload_n hx hb d_Law_406 rfl (lv_at hl 3 rfl) ?_
  refine lv_iconst (v := 4) hx hb d_Law_407 (by decide) ?_
  refine lv_iadd hx hb d_Law_408 ?_
  refine va_sld hx hb hXs hbl hbA hS (lw_in (nI_p4 i) (by omega) hL) d_Law_409 ?_
  refine gc_iV (b := ad 74) (As := [.int (xs (nI i + 1).toNatClampNeg), .int (xs (nI i + 2).toNatClampNeg), .int (xs (nI i + 3).toNatClampNeg), .int (xs (nI i + 4).toNatClampNeg)]) (rest := [.int (bI (pB a (xs (nI i + 1).toNatClampNeg) (xs (nI i + 2).toNatClampNeg) (xs (nI i + 3).toNatClampNeg) (xs (nI i + 4).toNatClampNeg)))]) X cw_Law_49 (C_Mod_begin l hI.1) hW hS (gW_recv (ci := 7) (fs := gf7 ad) hK hW (by omega) (fun σ τ => ge_7 rfl σ τ) (r := (R_Mod, F_Mod, 37)) rfl) ⟨Nat.le_of_ble_eq_true rfl, Nat.le_of_ble_eq_true rfl⟩ rfl hl.1 rfl (Nat.le_of_ble_eq_true rfl) d_Law_410 ⟨(show cells + 0 ≤ 600000 by omega), (show slots + 0 ≤ 7302250 by omega)⟩ (fun r t H locs hp8 hW hS => ?_)
  obtain ⟨x2, o2, rfl, rfl⟩ : ∃ x2 o2, t = (((sB a (xs (nI i + 1).toNatClampNeg) (xs (nI i + 2).toNatClampNeg) (xs (nI i + 3).toNatClampNeg) (xs (nI i + 4).toNatClampNeg)), x1, o1), ((sB a (xs (nI i + 1).toNatClampNeg) (xs (nI i + 2).toNatClampNeg) (xs (nI i + 3).toNatClampNeg) (xs (nI i + 4).toNatClampNeg)), x2, o2)) ∧ r = (bI (pB a (xs (nI i + 1).toNatClampNeg) (xs (nI i + 2).toNatClampNeg) (xs (nI i + 3).toNatClampNeg) (xs (nI i + 4).toNatClampNeg))) := ⟨xm, om, hp8.2, hp8.1⟩
  have hW : gW g A ad np ((sB a (xs (nI i + 1).toNatClampNeg) (xs (nI i + 2).toNatClampNeg) (xs (nI i + 3).toNatClampNeg) (xs (nI i + 4).toNatClampNeg)), x1, o1) ((sB a (xs (nI i + 1).toNatClampNeg) (xs (nI i + 2).toNatClampNeg) (xs (nI i + 3).toNatClampNeg) (xs (nI i + 4).toNatClampNeg)), x2, o2) H := hW
  refine lv_icmp_eq (tgt := 675) hx hb d_Law_413 (by decide) (fun h => ?_) (fun h => absurd rfl h)
  exact W.widen (by omega) (by omega) (kk _ _ ⟨ad, np, _, _, _, _, _, rfl, rfl, hW, hI1⟩ hS)
set_option maxHeartbeats 1000000 in
set_option maxRecDepth 20000 in
theorem LC_stop (l : Launch) {p : Program} {e : Env} {s : State} {m : MethodId} {args : Array Value} {below : List Frame} {meth : Method} {c : Code} {H : Heap} {locs : List Loc} {cells slots : Nat} {Q : State → Prop} {ls : Array Slot} {g : gG} {A : Nat → Prop} {b L i h1 h2 : Nat} {xs : Nat → Int32} (X : gcx g A p s m args c code 4 "PoliteGathererLaw") (hXs : va_X b L xs s s.heap) (hbl : b < s.heap.size) (hbA : ¬ A b) (hA : ∀ q, s.heap.size ≤ q → A q) (hO : nO s) (hI : lI g A h1 h2 H) (hS : va_S A s.heap H locs) (hl : lv_has ls 4 [(0, .ref b), (1, .ref h1), (2, .ref h2), (3, .int (nI i))]) (hi : i + 5 ≤ L) (hL : L ≤ 2560) (hc : cells + 5 ≤ 600000) (hs : slots + 25 ≤ 7302250)
    (kk : ∀ (H1 : Heap) (locs1 : List Loc), lI g A h1 h2 H1 → va_S A s.heap H1 locs1 → W p l e room_1 s m args below meth c H1 locs1 (cells + 5) (slots + 25) Q (F0 m 675 ls [])) : W p l e room_1 s m args below meth c H locs cells slots Q (F0 m 418 ls []) := by
  have hx := X.1.1
  have hb := X.1.2.1
  have hK := X.2.1
  obtain ⟨ad, np, a, x, o, xm, om, rfl, rfl, hW, hI⟩ := hI
  refine lv_aload_n hx hb d_Law_418 rfl (lv_at hl 1 rfl) ?_
  refine gc_iV (b := ad 0) (As := []) (rest := []) X cw_Law_50 (C_PG_stop l ) hW hS (gW_recv (ci := 0) (fs := gf0 ad) hK hW (by omega) (fun σ τ => ge_0 rfl σ τ) (r := (R_PG, F_PG, 4)) rfl) ⟨Nat.le_of_ble_eq_true rfl, Nat.le_of_ble_eq_true rfl⟩ rfl hl.1 rfl (Nat.le_of_ble_eq_true rfl) d_Law_419 ⟨(show cells + 0 ≤ 600000 by omega), (show slots + 0 ≤ 7302250 by omega)⟩ (fun r t H locs hp9 hW hS => ?_)
  obtain ⟨x1, o1, rfl, rfl, hI1⟩ : ∃ x1 o1, t = (((gu a 0 13 0), x1, o1), (a, xm, om)) ∧ r = (bI (decide (¬ a 0 13 = 0))) ∧ gI np (gu a 0 13 0) x1 := ⟨x, o, hp9.1, hp9.2, gI_S hI⟩
  have hW : gW g A ad np ((gu a 0 13 0), x1, o1) (a, xm, om) H := hW
  refine lv_aload_n hx hb d_Law_422 rfl (lv_at hl 2 rfl) ?_
  refine gc_iV (b := ad 74) (As := []) (rest := [.int (bI (decide (¬ a 0 13 = 0)))]) X cw_Law_54 (C_Mod_stop l hI.1.2.2.2.2.2.2.2.2.2) hW hS (gW_recv (ci := 7) (fs := gf7 ad) hK hW (by omega) (fun σ τ => ge_7 rfl σ τ) (r := (R_Mod, F_Mod, 37)) rfl) ⟨Nat.le_of_ble_eq_true rfl, Nat.le_of_ble_eq_true rfl⟩ rfl hl.1 rfl (Nat.le_of_ble_eq_true rfl) d_Law_423 ⟨(show cells + 0 ≤ 600000 by omega), (show slots + 0 ≤ 7302250 by omega)⟩ (fun r t H locs hp8 hW hS => ?_)
  obtain ⟨x2, o2, rfl, rfl⟩ : ∃ x2 o2, t = (((gu a 0 13 0), x1, o1), ((gu a 0 13 0), x2, o2)) ∧ r = (bI (decide (¬ a 0 13 = 0))) := ⟨xm, om, hp8.1, hp8.2⟩
  have hW : gW g A ad np ((gu a 0 13 0), x1, o1) ((gu a 0 13 0), x2, o2) H := hW
  refine lv_icmp_eq (tgt := 675) hx hb d_Law_426 (by decide) (fun h => ?_) (fun h => absurd rfl h)
  exact W.widen (by omega) (by omega) (kk _ _ ⟨ad, np, _, _, _, _, _, rfl, rfl, hW, hI1⟩ hS)
set_option maxHeartbeats 1000000 in
set_option maxRecDepth 20000 in
theorem LC_work (l : Launch) {p : Program} {e : Env} {s : State} {m : MethodId} {args : Array Value} {below : List Frame} {meth : Method} {c : Code} {H : Heap} {locs : List Loc} {cells slots : Nat} {Q : State → Prop} {ls : Array Slot} {g : gG} {A : Nat → Prop} {b L i h1 h2 : Nat} {xs : Nat → Int32} (X : gcx g A p s m args c code 4 "PoliteGathererLaw") (hXs : va_X b L xs s s.heap) (hbl : b < s.heap.size) (hbA : ¬ A b) (hA : ∀ q, s.heap.size ≤ q → A q) (hO : nO s) (hI : lI g A h1 h2 H) (hS : va_S A s.heap H locs) (hl : lv_has ls 4 [(0, .ref b), (1, .ref h1), (2, .ref h2), (3, .int (nI i))]) (hi : i + 5 ≤ L) (hL : L ≤ 2560) (hc : cells + 5 ≤ 600000) (hs : slots + 25 ≤ 7302250)
    (kk : ∀ (H1 : Heap) (locs1 : List Loc), lI g A h1 h2 H1 → va_S A s.heap H1 locs1 → W p l e room_1 s m args below meth c H1 locs1 (cells + 5) (slots + 25) Q (F0 m 675 ls [])) : W p l e room_1 s m args below meth c H locs cells slots Q (F0 m 431 ls []) := by
  have hx := X.1.1
  have hb := X.1.2.1
  have hK := X.2.1
  obtain ⟨ad, np, a, x, o, xm, om, rfl, rfl, hW, hI⟩ := hI
  refine lv_aload_n hx hb d_Law_431 rfl (lv_at hl 1 rfl) ?_
  refine lv_aload_n hx hb d_Law_432 rfl (lv_at hl 0 rfl) ?_
  refine lv_iload_n hx hb d_Law_433 rfl (lv_at hl 3 rfl) ?_
  refine lv_iconst (v := 1) hx hb d_Law_434 (by decide) ?_
  refine lv_iadd hx hb d_Law_435 ?_
  refine va_sld hx hb hXs hbl hbA hS (lw_in (nI_p1 i) (by omega) hL) d_Law_436 ?_
  refine gc_iV (b := ad 0) (As := [.int (xs (nI i + 1).toNatClampNeg)]) (rest := []) X cw_Law_55 (C_PG_work l hI.1 hI.2.2 hI.2.1) hW hS (gW_recv (ci := 0) (fs := gf0 ad) hK hW (by omega) (fun σ τ => ge_0 rfl σ τ) (r := (R_PG, F_PG, 4)) rfl) ⟨Nat.le_of_ble_eq_true rfl, Nat.le_of_ble_eq_true rfl⟩ rfl hl.1 rfl (Nat.le_of_ble_eq_true rfl) d_Law_437 ⟨(show cells + 0 ≤ 600000 by omega), (show slots + 0 ≤ 7302250 by omega)⟩ (fun r t H locs hp9 hW hS => ?_)
  obtain ⟨x1, o1, rfl, rfl, hI1⟩ : ∃ x1 o1, t = (((sWo a (xs (nI i + 1).toNatClampNeg)), x1, o1), (a, xm, om)) ∧ r = (rWk a (xs (nI i + 1).toNatClampNeg)) ∧ gI np (sWo a (xs (nI i + 1).toNatClampNeg)) x1 := by obtain ⟨h1, x1, h2, h3⟩ := hp9; exact ⟨x1, o, h2, h1, gI_O hI.1 hI.2.1 h3⟩
  have hW : gW g A ad np ((sWo a (xs (nI i + 1).toNatClampNeg)), x1, o1) (a, xm, om) H := hW
  refine lv_aload_n hx hb d_Law_440 rfl (lv_at hl 2 rfl) ?_
  refine lv_aload_n hx hb d_Law_441 rfl (lv_at hl 0 rfl) ?_
  refine lv_iload_n hx hb d_Law_442 rfl (lv_at hl 3 rfl) ?_
  refine lv_iconst (v := 1) hx hb d_Law_443 (by decide) ?_
  refine lv_iadd hx hb d_Law_444 ?_
  refine va_sld hx hb hXs hbl hbA hS (lw_in (nI_p1 i) (by omega) hL) d_Law_445 ?_
  refine gc_iV (b := ad 74) (As := [.int (xs (nI i + 1).toNatClampNeg)]) (rest := [.int (rWk a (xs (nI i + 1).toNatClampNeg))]) X cw_Law_59 (C_Mod_work l hI.1 hI.2.1) hW hS (gW_recv (ci := 7) (fs := gf7 ad) hK hW (by omega) (fun σ τ => ge_7 rfl σ τ) (r := (R_Mod, F_Mod, 37)) rfl) ⟨Nat.le_of_ble_eq_true rfl, Nat.le_of_ble_eq_true rfl⟩ rfl hl.1 rfl (Nat.le_of_ble_eq_true rfl) d_Law_446 ⟨(show cells + 0 ≤ 600000 by omega), (show slots + 0 ≤ 7302250 by omega)⟩ (fun r t H locs hp8 hW hS => ?_)
  obtain ⟨x2, o2, rfl, rfl⟩ : ∃ x2 o2, t = (((sWo a (xs (nI i + 1).toNatClampNeg)), x1, o1), ((sWo a (xs (nI i + 1).toNatClampNeg)), x2, o2)) ∧ r = (rWk a (xs (nI i + 1).toNatClampNeg)) := ⟨xm, om, hp8.2, hp8.1⟩
  have hW : gW g A ad np ((sWo a (xs (nI i + 1).toNatClampNeg)), x1, o1) ((sWo a (xs (nI i + 1).toNatClampNeg)), x2, o2) H := hW
  refine lv_icmp_eq (tgt := 675) hx hb d_Law_449 (by decide) (fun h => ?_) (fun h => absurd rfl h)
  exact W.widen (by omega) (by omega) (kk _ _ ⟨ad, np, _, _, _, _, _, rfl, rfl, hW, hI1⟩ hS)
