/-! A new page. -/
theorem gw_len (g : gG) (ad : Nat → Nat) (np : Nat) (σ : gA) (τ : gL) : (gw g ad np σ τ).length = 94 + 5 * np := by
  unfold gw
  rw [List.length_map, List.length_range]
theorem gp_s (np : Nat) : 94 + 5 * (np + 1) = gp np + 5 := by unfold gp; omega
def gNP (g : gG) (q0 q1 q2 q3 q4 : Nat) (w1 w2 : Int32) : va_W := [(q0, .inr (4, [.int w1, .int w2, .ref q1, .ref q3, .ref (g.2.2 0), .int (-1)])), (q1, .inr (3, [.ref q2, .int 0])), (q2, .inl (g.2.1 0, 8, .inl (fun _ => 0))), (q3, .inr (3, [.ref q4, .int 0])), (q4, .inl (g.2.1 0, 5, .inl (fun _ => 0)))]
theorem gW_grow {g : gG} {A : Nat → Prop} {ad : Nat → Nat} {np q0 q1 q2 q3 q4 : Nat} {a x : gA} {o : gL} {v : gS} {H : Heap} {σ : gA} {τ : gL} {w1 w2 : Int32} (hw : WFw np a)
    (h3 : ∀ q, gv np q → σ (gi q).1 (gi q).2 = gr (a, x, o) v q) (h4 : ∀ k, k < 3 → τ (71 + k) = o k) (h5 : ∀ k, k < 2 → τ (92 + k) = v.2.2 k)
    (hW : nW g A ((gw g ad np σ τ ++ gNP g q0 q1 q2 q3 q4 w1 w2).set 2 (ad 2, .inl (g.2.1 3, 32, .inr (.inr (.inr (.inr (va_up (fun p => if p < np then some (ad (gp p)) else none) np (some q0)))))))) H) :
    gW g A (adX ad np q0 q1 q2 q3 q4) (np + 1) (gu (gu a 1 np w1) 2 np w2, gu (gu x 0 np 0) 1 np (-1), o) v H := by
  have key : ∀ k, k < 94 + 5 * (np + 1) → ∃ e, ((gw g ad np σ τ ++ gNP g q0 q1 q2 q3 q4 w1 w2).set 2 (ad 2, .inl (g.2.1 3, 32, .inr (.inr (.inr (.inr (va_up (fun p => if p < np then some (ad (gp p)) else none) np (some q0))))))))[k]? = some (adX ad np q0 q1 q2 q3 q4 k, e) ∧ (va_at g.1 gcl (adX ad np q0 q1 q2 q3 q4 k, e) H → va_at g.1 gcl (adX ad np q0 q1 q2 q3 q4 k, ge g (adX ad np q0 q1 q2 q3 q4) (np + 1) (sgX σ np w1 w2) τ k) H) := by
    intro k hk
    by_cases hl : k < 94 + 5 * np
    · by_cases k2 : k = 2
      · subst k2
        refine ⟨_, by rw [List.getElem?_set_self (by rw [List.length_append, gw_len]; omega), adX_lt hl], fun h => ?_⟩
        rw [ge_11]
        refine at_refs (fun p _ => ?_) h
        unfold va_up
        by_cases c1 : p = np
        · subst c1
          rw [if_pos rfl, if_pos (by omega), show gp p = gp p + 0 from rfl, adX_at]
          rfl
        · rw [if_neg c1]
          show (if p < np then some (ad (gp p)) else none) = _
          by_cases c2 : p < np
          · rw [if_pos c2, if_pos (by omega), adX_lt (by unfold gp; omega)]
          · rw [if_neg c2, if_neg (by omega)]
      · refine ⟨ge g ad np σ τ k, by rw [List.getElem?_set_ne (Ne.symm k2), List.getElem?_append_left (by rw [gw_len]; exact hl), gw_at hl, adX_lt hl], fun h => ?_⟩
        by_cases k3 : k = 3
        · subst k3
          rw [ge_12] at h ⊢
          exact at_refs (fun p hp => by rw [adX_lt (by omega)]) h
        · by_cases k37 : k = 37
          · subst k37
            rw [ge_13] at h ⊢
            exact at_refs (fun p hp => by rw [adX_lt (by omega)]) h
          · rw [ge_ad hl (fun j hj => adX_lt hj) (sgX_lt hl) k2 k3 k37]
            exact h
    · obtain ⟨r, hr, rfl⟩ : ∃ r, r < 5 ∧ k = gp np + r := ⟨k - (94 + 5 * np), by omega, by unfold gp; omega⟩
      have hat : ((gw g ad np σ τ ++ gNP g q0 q1 q2 q3 q4 w1 w2).set 2 (ad 2, .inl (g.2.1 3, 32, .inr (.inr (.inr (.inr (va_up (fun p => if p < np then some (ad (gp p)) else none) np (some q0))))))))[gp np + r]? = (gNP g q0 q1 q2 q3 q4 w1 w2)[r]? := by
        rw [List.getElem?_set_ne (by unfold gp; omega), List.getElem?_append_right (by rw [gw_len]; unfold gp; omega), gw_len, show gp np + r - (94 + 5 * np) = r by unfold gp; omega]
      rw [hat, adX_at]
      match r, hr with
      | 0, _ =>
        refine ⟨_, rfl, fun h => ?_⟩
        rw [show gp np + 0 = gp np from rfl, ge_4 (gk_p0 np)]
        simp only [gf4, adX_at]
        rw [sgX_p, sgX_p, sgX_p, sgX_p]
        exact h
      | 1, _ =>
        refine ⟨_, rfl, fun h => ?_⟩
        rw [ge_3 (gk_p1 np)]
        simp only [gf3, show gp np + 1 + 1 = gp np + 2 from rfl, adX_at]
        rw [show gp np + 1 = gp np + (0 + 1) from rfl, sgX_z]
        exact h
      | 2, _ =>
        refine ⟨_, rfl, fun h => ?_⟩
        rw [ge_8 (gk_p2 np), gn_p2, show sgX σ np w1 w2 (gp np + 2) = (fun _ => 0) from funext (fun j => sgX_z 1 j)]
        exact h
      | 3, _ =>
        refine ⟨_, rfl, fun h => ?_⟩
        rw [ge_3 (gk_p3 np)]
        simp only [gf3, show gp np + 3 + 1 = gp np + 4 from rfl, adX_at]
        rw [show gp np + 3 = gp np + (2 + 1) from rfl, sgX_z]
        exact h
      | 4, _ =>
        refine ⟨_, rfl, fun h => ?_⟩
        rw [ge_8 (gk_p4 np), gn_p4, show sgX σ np w1 w2 (gp np + 4) = (fun _ => 0) from funext (fun j => sgX_z 3 j)]
        exact h
  have hat : ∀ (k : Nat) (z : Nat × va_E), (gw g (adX ad np q0 q1 q2 q3 q4) (np + 1) (sgX σ np w1 w2) τ)[k]? = some z → k < 94 + 5 * (np + 1) ∧ z = (adX ad np q0 q1 q2 q3 q4 k, ge g (adX ad np q0 q1 q2 q3 q4) (np + 1) (sgX σ np w1 w2) τ k) := by
    intro k z hz
    have hk : k < 94 + 5 * (np + 1) := by
      have := (List.getElem?_eq_some_iff.mp hz).1
      rw [gw_len] at this
      exact this
    rw [gw_at hk] at hz
    exact ⟨hk, (Option.some.inj hz).symm⟩
  obtain ⟨-, -, -, -, hz5, hz4, hz6, -⟩ := hw
  refine ⟨sgX σ np w1 w2, τ, fun k z hz => ?_, ⟨fun i j y z hi hj e => ?_, fun k z hz => ?_⟩, fun q hq => ?_, h4, h5⟩
  · obtain ⟨hk, rfl⟩ := hat k z hz
    obtain ⟨e, he, ht⟩ := key k hk
    exact ht (hW.1 k _ he)
  · obtain ⟨hk, rfl⟩ := hat i y hi
    obtain ⟨hk2, rfl⟩ := hat j z hj
    obtain ⟨e1, he1, -⟩ := key i hk
    obtain ⟨e2, he2, -⟩ := key j hk2
    exact hW.2.1 i j _ _ he1 he2 e
  · obtain ⟨hk, rfl⟩ := hat k z hz
    obtain ⟨e, he, -⟩ := key k hk
    have h := hW.2.2 k _ he
    exact h
  · have hnw : ∀ r i, gv np (0, r, i) → gu (gu a 1 np w1) 2 np w2 r i = a r i := fun r i h => by
      rw [gu_off (fun e => by obtain ⟨rfl, rfl⟩ := e; exact absurd (show i < 0 + 1 * i from h) (by omega)), gu_off (fun e => by obtain ⟨rfl, rfl⟩ := e; exact absurd (show i < 0 + 1 * i from h) (by omega))]
    have hnx : ∀ r i, gv np (1, r, i) → gu (gu x 0 np 0) 1 np (-1) r i = x r i := fun r i h => by
      rw [gu_off (fun e => by obtain ⟨rfl, rfl⟩ := e; exact absurd (show i < 0 + 1 * i from h) (by omega)), gu_off (fun e => by obtain ⟨rfl, rfl⟩ := e; exact absurd (show i < 0 + 1 * i from h) (by omega))]
    rcases gv_s hq with h | rfl | rfl | ⟨i, hi, rfl⟩ | rfl | ⟨i, hi, rfl⟩ | rfl | rfl | rfl
    · rw [sgX_lt (gi_lt h), h3 q h]
      obtain ⟨q1', q2', i⟩ := q
      match q1' with
      | 0 => exact (hnw q2' i h).symm
      | 1 => exact (hnx q2' i h).symm
      | 2 => rfl
      | n + 3 => rfl
    · rw [gi_0_1, sgX_p]
      show w1 = gu (gu a 1 np w1) 2 np w2 1 np
      rw [gu_off (by omega), gu_hit]
    · rw [gi_0_2, sgX_p]
      show w2 = gu (gu a 1 np w1) 2 np w2 2 np
      rw [gu_hit]
    · rw [gi_0_4 _ hi, show gp np + 2 = gp np + (1 + 1) from rfl, sgX_z]
      show 0 = gu (gu a 1 np w1) 2 np w2 4 (8 * np + i)
      rw [gu_off (by omega), gu_off (by omega), hz4 _ (by omega)]
    · rw [gi_0_5, show gp np + 1 = gp np + (0 + 1) from rfl, sgX_z]
      show 0 = gu (gu a 1 np w1) 2 np w2 5 np
      rw [gu_off (by omega), gu_off (by omega), (hz5 np (Nat.le_refl _)).1]
    · rw [gi_0_6 _ hi, show gp np + 4 = gp np + (3 + 1) from rfl, sgX_z]
      show 0 = gu (gu a 1 np w1) 2 np w2 6 (5 * np + i)
      rw [gu_off (by omega), gu_off (by omega), hz6 _ (by omega)]
    · rw [gi_0_7, show gp np + 3 = gp np + (2 + 1) from rfl, sgX_z]
      show 0 = gu (gu a 1 np w1) 2 np w2 7 np
      rw [gu_off (by omega), gu_off (by omega), (hz5 np (Nat.le_refl _)).2]
    · rw [gi_1_0, sgX_p]
      show 0 = gu (gu x 0 np 0) 1 np (-1) 0 np
      rw [gu_off (by omega), gu_hit]
    · rw [gi_1_1, sgX_p]
      show -1 = gu (gu x 0 np 0) 1 np (-1) 1 np
      rw [gu_hit]

/-- a method that may make a page -/
def gPt : Type := (Nat → Nat) × Nat × gS × gS
def gPb (g : gG) (A : Nat → Prop) (ad : Nat → Nat) (np : Nat) (u v : gS) (U : State) : Prop := gW g A ad np u v U.heap ∧ gK g A U ∧ (∀ q, U.heap.size ≤ q → A q) ∧ nO U
def CtP (l : Launch) (y : MethodName) (b : ByteArray) (nl d : Nat) (As : List Value) (g : gG) (A : Nat → Prop) (ad : Nat → Nat) (np : Nat) (u v : gS) (post : Int32 → gPt → Prop) : Prop := Met l y (.code y b nl (some .int) :: gWG) (rmD d 5 23) (va_Pc As (gPb g A ad np u v)) (va_Qi post (fun (t : gPt) U => gW g A t.1 t.2.1 t.2.2.1 t.2.2.2 U.heap) A) 5 23 A
def BdP (l : Launch) (b : ByteArray) (nl : Nat) (own : String) (d : Nat) (As : List Value) (g : gG) (A : Nat → Prop) (ad : Nat → Nat) (np : Nat) (u v : gS) (post : Int32 → gPt → Prop) : Prop :=
  ∀ (p : Program) (e : Env) (R : Room) (s : State) (m : MethodId) (args : Array Value) (below : List Frame) (meth : Method) (c : Code) (Q : State → Prop) (ls : Array Slot), gcx g A p s m args c b nl own → gW g A ad np u v s.heap → va_S A s.heap s.heap [] → (∀ q, s.heap.size ≤ q → A q) → nO s → d ≤ R.frames ∧ 40 * d ≤ R.locals → 5 ≤ R.cells ∧ 23 ≤ R.slots → lv_has ls nl (lv_args 0 As) →
    (∀ (r : Int32) (t : gPt) (H : Heap) (locs : List Loc) (pc : Nat) (ls : Array Slot), post r t → gW g A t.1 t.2.1 t.2.2.1 t.2.2.2 H → va_S A s.heap H locs → decode b pc = .ok (.ireturn, 1) → W p l e R s m args below meth c H locs 5 23 Q (F0 m pc ls [.int r])) → W p l e R s m args below meth c s.heap [] 0 0 Q (F0 m 0 ls [])
theorem mkP {l : Launch} {y : MethodName} {b : ByteArray} {nl d : Nat} {As : List Value} {g : gG} {A : Nat → Prop} {ad : Nat → Nat} {np : Nat} {u v : gS} {own : String} {post : Int32 → gPt → Prop} (hy : plainName y.cls = true) (ho : y.cls = own) (hlen : (lg_sl As).length ≤ nl) (h : BdP l b nl own d As g A ad np u v post) : CtP l y b nl d As g A ad np u v post := by
  refine Met.ofW (cc := b) (maxL := nl) (ret := some .int) hy rfl ?_
  intro p e s m args below meth c s₁ B hml hv
  obtain ⟨rfl, hW, hK, hA, hO⟩ := hv
  subst ho
  have hts := atoms_spec (ws := .code y b nl (some .int) :: gWG) B.pre
  have hl := lv_entry As (n := nl) hlen
  rw [lg_entry_eq]
  generalize (lg_sl As ++ List.replicate (nl - (lg_sl As).length) Slot.unset).toArray = ls at hl ⊢
  have hlocks := B.notSynchronized
  exact h p e _ s m _ below meth c _ ls ⟨⟨B.exec, B.bytes, hml, findClass_of_methodNamed B.named, fun w hw => hts w (List.mem_cons_of_mem _ hw)⟩, hK⟩ hW va_S.rf hA hO ⟨Nat.le_refl _, Nat.le_refl _⟩ ⟨Nat.le_refl _, Nat.le_refl _⟩ hl (fun r t H locs pc ls hp hW1 hS1 hd => W.zret B.exec B.bytes B.returns rfl (fun t' ht _ => ⟨⟨r, t, rfl, hp, by show gW _ _ _ _ _ _ _; rw [ht]; exact hW1⟩, hS1.F ht⟩) hS1.2.2 hd hlocks)
section GPC
variable {p : Program} {l : Launch} {e : Env} {R : Room} {s : State} {m : MethodId} {args : Array Value} {below : List Frame} {meth : Method} {c : Code} {H : Heap} {locs : List Loc} {cells slots : Nat} {Q : State → Prop}
variable {cc : ByteArray} {pc nL : Nat} {ls : Array Slot} {rest st0 : List Value} {g : gG} {A : Nat → Prop} {ad : Nat → Nat} {np : Nat} {u v : gS} {own : String} {index n maxL d : Nat} {y : MethodName} {bytes : ByteArray} {b : Nat} {As : List Value}
theorem gcwP {ret : Option FieldType} (X : gcx g A p s m args c cc nL own) (hw : gwV own index y bytes maxL ret n) (hR : d + 1 ≤ R.frames ∧ 8 + (maxL + 11) + 40 * d ≤ R.locals) : CallW R s args own y.cls index y bytes maxL ret (.code y bytes maxL ret :: gWG) (rmD d 5 23) 5 23 n := by
  obtain ⟨⟨-, -, -, -, hts⟩, -⟩ := X
  obtain ⟨h1, h2, h3, h4, h5, h6⟩ := hw
  exact ⟨callB_of n hts (gWG_cons h5) rfl rfl rfl (hts _ h4) (hts _ h1) h6 hR, hts _ h2, hts _ h3⟩
theorem gc_pV {post : Int32 → gPt → Prop} (X : gcx g A p s m args c cc nL own) (hw : gwV own index y bytes maxL (some .int) n) (hM : CtP l y bytes maxL d (.ref b :: As) g A ad np u v post) (hW : gW g A ad np u v H) (hS : va_S A s.heap H locs) (hA : ∀ q, s.heap.size ≤ q → A q) (hO : nO s) (hv : ∃ cell : Cell, H[b]? = some cell ∧ cell.vm.isStatics = false ∧ s.vm.findClass y.cls = some cell.cls) (hR : d + 1 ≤ R.frames ∧ 8 + (maxL + 11) + 40 * d ≤ R.locals) (hn : As.length = n) (hls : ls.size = nL) (hst : st0 = As.reverse ++ .ref b :: rest) (hcat : (rest.map fun v => v.category).sum ≤ 8) (hdg : decode cc pc = .ok (.invokevirtual index, 3)) (hcr : cells + 5 ≤ R.cells ∧ slots + 23 ≤ R.slots)
    (kk : ∀ (r : Int32) (t : gPt) (H1 : Heap) (locs1 : List Loc), post r t → gW g A t.1 t.2.1 t.2.2.1 t.2.2.2 H1 → va_S A s.heap H1 locs1 → W p l e R s m args below meth c H1 locs1 (cells + 5) (slots + 23) Q (F0 m (pc + 3) ls (.int r :: rest))) : W p l e R s m args below meth c H locs cells slots Q (F0 m pc ls st0) := by
  subst hst
  exact va_calli (va_runV X.1 hM (gcwP X hw hR) ⟨fun a U f mk h => ⟨h.1, h.2.1, gK_calling h.2.2.1 f mk a, h.2.2.2.1, nO_moved (u := U) (U := U.calling f mk a) (Vm.Alike.refl U.vm) h.2.2.2.2⟩, hv, fun U hU hw => ⟨rfl, by rw [hU]; exact hW, gK_moved X.2 hS hU hw, fun q h => hA q (Nat.le_trans hS.1 (by rw [← hU]; exact h)), nO_moved hw.alike hO⟩⟩ rfl hn hls rfl (lv_room hcat) hdg hcr) hS (fun _ _ h => h) (fun _ h => h) (fun r t t' H1 locs1 ht _ hp hB _ _ hS1 => kk r t H1 locs1 hp (by rw [← ht]; exact hB) hS1)
end GPC
def xP (a x : gA) (h q : Int32) : gA := if pP a h q = true then gu (gu x 0 (cn a 0) 0) 1 (cn a 0) (-1) else x
def nP (a : gA) (np : Nat) (h q : Int32) : Nat := if pP a h q = true then np + 1 else np
/-- what page leaves behind -/
def eP (ad : Nat → Nat) (np : Nat) (a x : gA) (o : gL) (v : gS) (w1 w2 : Int32) (r : Int32) (t : gPt) : Prop := r = rP a w1 w2 ∧ (∀ k, k < 94 → t.1 k = ad k) ∧ t.2 = (nP a np w1 w2, (sP a w1 w2, xP a x w1 w2, o), v)
theorem eP_no {ad : Nat → Nat} {np : Nat} {a x : gA} {o : gL} {v : gS} {w1 w2 : Int32} (h : pP a w1 w2 = false) : eP ad np a x o v w1 w2 (-1) (ad, np, (a, x, o), v) := by
  unfold eP rP nP sP xP
  rw [h]
  exact ⟨rfl, fun _ _ => rfl, rfl⟩
