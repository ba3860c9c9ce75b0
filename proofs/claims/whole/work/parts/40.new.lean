/-! New cells: worlds as lists, and the contracts of constructors. -/
def nW (g : gG) (A : Nat → Prop) (Z : va_W) (H : Heap) : Prop := va_P g.1 gcl Z H ∧ va_D A Z
def nO (U : State) : Prop := (Cond.arrayOver (.array .int)).before #[] U = true
theorem nO_moved {u U : State} (hvm : u.vm.Alike U.vm) (h : nO u) : nO U := by
  unfold nO Cond.before Cond.holds at h ⊢
  simp only [Cond.value, beq_iff_eq, Option.bind_eq_some_iff, Option.map_eq_some_iff] at h ⊢
  obtain ⟨comp, h1, c, h2, k, h3, h4⟩ := h
  obtain ⟨k', hk', he⟩ := hvm.2.2 _ _ h3
  exact ⟨comp, by rw [hvm.findClass]; exact h1, c, by have e0 := va_idx_bare U.vm comp; rw [hvm.bare_eq] at e0; exact (e0.symm.trans (va_idx_bare u.vm comp)).trans h2, k', hk', by rw [hvm.findClass, he]; exact h4⟩
def nB (g : gG) (A : Nat → Prop) (Z : va_W) (U : State) : Prop := nW g A Z U.heap ∧ gK g A U ∧ (∀ q, U.heap.size ≤ q → A q) ∧ nO U
def CtN (l : Launch) (y : MethodName) (b : ByteArray) (nl d mc ms : Nat) (As : List Value) (g : gG) (A : Nat → Prop) (Z : va_W) (post : va_W → Prop) : Prop := Met l y (.code y b nl none :: gWG) (rmD d mc ms) (va_Pc As (nB g A Z)) (va_Qv post (fun Z' U => nW g A Z' U.heap) A) mc ms A
def BdN (l : Launch) (b : ByteArray) (nl : Nat) (own : String) (d mc ms : Nat) (As : List Value) (g : gG) (A : Nat → Prop) (Z : va_W) (post : va_W → Prop) : Prop :=
  ∀ (p : Program) (e : Env) (R : Room) (s : State) (m : MethodId) (args : Array Value) (below : List Frame) (meth : Method) (c : Code) (Q : State → Prop) (ls : Array Slot), gcx g A p s m args c b nl own → meth.name = "<init>" → nW g A Z s.heap → va_S A s.heap s.heap [] → (∀ q, s.heap.size ≤ q → A q) → nO s → d ≤ R.frames ∧ 40 * d ≤ R.locals → mc ≤ R.cells ∧ ms ≤ R.slots → lv_has ls nl (lv_args 0 As) →
    (∀ (Z' : va_W) (H : Heap) (locs : List Loc) (pc : Nat) (ls : Array Slot), post Z' → nW g A Z' H → va_S A s.heap H locs → decode b pc = .ok (.return_, 1) → W p l e R s m args below meth c H locs mc ms Q (F0 m pc ls [])) → W p l e R s m args below meth c s.heap [] 0 0 Q (F0 m 0 ls [])
theorem mkN {l : Launch} {y : MethodName} {b : ByteArray} {nl d mc ms : Nat} {As : List Value} {g : gG} {A : Nat → Prop} {Z : va_W} {own : String} {post : va_W → Prop} (hy : plainName y.cls = true) (ho : y.cls = own) (hnm : y.name = "<init>") (hlen : (lg_sl As).length ≤ nl) (h : BdN l b nl own d mc ms As g A Z post) : CtN l y b nl d mc ms As g A Z post := by
  refine Met.ofW (cc := b) (maxL := nl) (ret := none) hy rfl ?_
  intro p e s m args below meth c s₁ B hml hv
  obtain ⟨rfl, hW, hK, hA, hO⟩ := hv
  subst ho
  have hts := atoms_spec (ws := .code y b nl none :: gWG) B.pre
  have hl := lv_entry As (n := nl) hlen
  have hin : meth.name = "<init>" := (name_of_methodNamed B.named B.method).1.trans hnm
  rw [lg_entry_eq]
  generalize (lg_sl As ++ List.replicate (nl - (lg_sl As).length) Slot.unset).toArray = ls at hl ⊢
  have hlocks := B.notSynchronized
  exact h p e _ s m _ below meth c _ ls ⟨⟨B.exec, B.bytes, hml, findClass_of_methodNamed B.named, fun w hw => hts w (List.mem_cons_of_mem _ hw)⟩, hK⟩ hin hW va_S.rf hA hO ⟨Nat.le_refl _, Nat.le_refl _⟩ ⟨Nat.le_refl _, Nat.le_refl _⟩ hl (fun Z' H locs pc ls hp hW1 hS1 hd => W.vret B.exec B.bytes B.returns (fun t' ht _ => ⟨⟨Z', rfl, hp, by show nW _ _ _ _; rw [ht]; exact hW1⟩, hS1.F ht⟩) hS1.2.2 hd hlocks)
def gwI (own : String) (index : Nat) (y : MethodName) (b : ByteArray) (nl n : Nat) : Prop := Cond.methodLink own index y ∈ gWG ∧ Cond.instanceMethod y ∈ gWG ∧ Cond.initialized y.cls ∈ gWG ∧ Cond.code y b nl none ∈ gWG ∧ y.name = "<init>" ∧ gwD y n
theorem nz_at {Z Y : va_W} {i : Nat} {x : Nat × va_E} (h : Y[i]? = some x) : (Z ++ Y)[Z.length + i]? = some x := by
  rw [List.getElem?_append_right (by omega), show Z.length + i - Z.length = i by omega]
  exact h
theorem nz_set (Z Y : va_W) (i : Nat) (x : Nat × va_E) : (Z ++ Y).set (Z.length + i) x = Z ++ Y.set i x := by
  rw [List.set_append_right _ _ (by omega), show Z.length + i - Z.length = i by omega]
theorem w_o_inst : Cond.instanceMethod Lib.objectInit ∈ gWG := gWG_in (List.mem_append_right _ q18) rfl
theorem w_o_code : Cond.code Lib.objectInit ⟨#[0xb1]⟩ 1 none ∈ gWG := gWG_in (List.mem_append_right _ q19) rfl
theorem w_aI : Cond.arrayClass .int ∈ gWG := gWG_in (List.mem_append_right _ q45) rfl
theorem w_aZ : Cond.arrayClass .boolean ∈ gWG := gWG_in (List.mem_append_right _ q46) rfl
theorem w_aJ : Cond.arrayClass .long ∈ gWG := gWG_in (List.mem_append_right _ q183) rfl
section GNW
variable {p : Program} {l : Launch} {e : Env} {R : Room} {s : State} {m : MethodId} {args : Array Value} {below : List Frame} {meth : Method} {c : Code} {H : Heap} {locs : List Loc} {cells slots : Nat} {Q : State → Prop}
variable {cc : ByteArray} {pc nL : Nat} {ls : Array Slot} {rest st0 : List Value} {g : gG} {A : Nat → Prop} {Z Y : va_W} {own : String} {index n maxL d mc ms : Nat} {y : MethodName} {bytes : ByteArray} {b : Nat} {As : List Value}
theorem n_ctor {post : va_W → Prop} (X : gcx g A p s m args c cc nL own) (hw : gwI own index y bytes maxL n) (hM : CtN l y bytes maxL d mc ms (.ref b :: As) g A Z post) (hW : nW g A Z H) (hS : va_S A s.heap H locs) (hA : ∀ q, s.heap.size ≤ q → A q) (hO : nO s) (hR : d + 1 ≤ R.frames ∧ 8 + (maxL + 11) + 40 * d ≤ R.locals) (hn : As.length = n) (hls : ls.size = nL) (hst : st0 = As.reverse ++ .ref b :: rest) (hcat : (rest.map fun v => v.category).sum ≤ 8) (hdg : decode cc pc = .ok (.invokespecial index, 3)) (hcr : cells + mc ≤ R.cells ∧ slots + ms ≤ R.slots)
    (kk : ∀ (Z' : va_W) (H1 : Heap) (locs1 : List Loc), post Z' → nW g A Z' H1 → va_S A s.heap H1 locs1 → W p l e R s m args below meth c H1 locs1 (cells + mc) (slots + ms) Q (F0 m (pc + 3) ls rest)) : W p l e R s m args below meth c H locs cells slots Q (F0 m pc ls st0) := by
  subst hst
  have hts := X.1.2.2.2.2
  obtain ⟨h1, h2, h4, h5, h7, h6⟩ := hw
  exact va_callv (va_runI X.1 hM (cwI n hts (gWG_cons h5) rfl rfl rfl (hts _ h4) (hts _ h1) (hts _ h2) h7 h6 hR) ⟨fun a U f mk h => ⟨h.1, h.2.1, gK_calling h.2.2.1 f mk a, h.2.2.2.1, nO_moved (u := U) (U := U.calling f mk a) (Vm.Alike.refl U.vm) h.2.2.2.2⟩, fun U hU hw => ⟨rfl, by rw [hU]; exact hW, gK_moved X.2 hS hU hw, fun q h => hA q (Nat.le_trans hS.1 (by rw [← hU]; exact h)), nO_moved hw.alike hO⟩⟩ rfl hn hls rfl (lv_room hcat) hdg hcr) hS (fun _ _ h => h) (fun _ h => h) (fun t t' H1 locs1 ht _ hp hB _ _ hS1 => kk t H1 locs1 hp (by rw [← ht]; exact hB) hS1)
theorem n_newI (X : gcx g A p s m args c cc nL own) (hW : nW g A Z H) (hS : va_S A s.heap H locs) (hA : ∀ q, s.heap.size ≤ q → A q) {i : Int32} {N : Nat} (hn : ¬ i < 0) (hN : i.toNatClampNeg = N) (hN2 : N ≤ 1000) (hc : cells + 1 ≤ R.cells) (hs : slots + N ≤ R.slots) (hdg : decode cc pc = .ok (.newarray .int, 2))
    (kk : ∀ (q : Nat) (H1 : Heap), nW g A (Z ++ [(q, .inl (g.2.1 0, N, .inl (fun _ => 0)))]) H1 → va_S A s.heap H1 locs → W p l e R s m args below meth c H1 locs (cells + 1) (slots + N) Q (F0 m (pc + 2) ls (.ref q :: rest))) : W p l e R s m args below meth c H locs cells slots Q (F0 m pc ls (.int i :: rest)) :=
  va_newa X.1.1 X.1.2.1 (X.1.2.2.2.2 _ w_aI) (atype := .int) (ty := .int) rfl X.2.1 hW.1 hW.2 hS hA (a0 := (N, .inl (fun _ => 0))) (fun cA => rfl) hn hN (by show N * 4 ≤ _; omega) hc hs hdg (fun q cA H1 hK1 hP1 hD1 hS1 => by
    have e1 : cA = g.2.1 0 := Option.some.inj ((hK1.2 6 (cA, .int) rfl).2.symm.trans (hK1.2 0 (g.2.1 0, .int) rfl).2)
    subst e1
    exact kk q H1 ⟨hP1, hD1⟩ hS1)
theorem n_newZ (X : gcx g A p s m args c cc nL own) (hW : nW g A Z H) (hS : va_S A s.heap H locs) (hA : ∀ q, s.heap.size ≤ q → A q) {i : Int32} {N : Nat} (hn : ¬ i < 0) (hN : i.toNatClampNeg = N) (hN2 : N ≤ 1000) (hc : cells + 1 ≤ R.cells) (hs : slots + N ≤ R.slots) (hdg : decode cc pc = .ok (.newarray .boolean, 2))
    (kk : ∀ (q : Nat) (H1 : Heap), nW g A (Z ++ [(q, .inl (g.2.1 1, N, .inl (fun _ => 0)))]) H1 → va_S A s.heap H1 locs → W p l e R s m args below meth c H1 locs (cells + 1) (slots + N) Q (F0 m (pc + 2) ls (.ref q :: rest))) : W p l e R s m args below meth c H locs cells slots Q (F0 m pc ls (.int i :: rest)) :=
  va_newa X.1.1 X.1.2.1 (X.1.2.2.2.2 _ w_aZ) (atype := .boolean) (ty := .boolean) rfl X.2.1 hW.1 hW.2 hS hA (a0 := (N, .inl (fun _ => 0))) (fun cA => rfl) hn hN (by show N * 1 ≤ _; omega) hc hs hdg (fun q cA H1 hK1 hP1 hD1 hS1 => by
    have e1 : cA = g.2.1 1 := Option.some.inj ((hK1.2 6 (cA, .boolean) rfl).2.symm.trans (hK1.2 1 (g.2.1 1, .boolean) rfl).2)
    subst e1
    exact kk q H1 ⟨hP1, hD1⟩ hS1)
theorem n_newJ (X : gcx g A p s m args c cc nL own) (hW : nW g A Z H) (hS : va_S A s.heap H locs) (hA : ∀ q, s.heap.size ≤ q → A q) {i : Int32} {N : Nat} (hn : ¬ i < 0) (hN : i.toNatClampNeg = N) (hN2 : N ≤ 1000) (hc : cells + 1 ≤ R.cells) (hs : slots + N ≤ R.slots) (hdg : decode cc pc = .ok (.newarray .long, 2))
    (kk : ∀ (q : Nat) (H1 : Heap), nW g A (Z ++ [(q, .inl (g.2.1 2, N, .inr (.inl (fun _ => 0))))]) H1 → va_S A s.heap H1 locs → W p l e R s m args below meth c H1 locs (cells + 1) (slots + N) Q (F0 m (pc + 2) ls (.ref q :: rest))) : W p l e R s m args below meth c H locs cells slots Q (F0 m pc ls (.int i :: rest)) :=
  va_newa X.1.1 X.1.2.1 (X.1.2.2.2.2 _ w_aJ) (atype := .long) (ty := .long) rfl X.2.1 hW.1 hW.2 hS hA (a0 := (N, .inr (.inl (fun _ => 0)))) (fun cA => rfl) hn hN (by show N * 8 ≤ _; omega) hc hs hdg (fun q cA H1 hK1 hP1 hD1 hS1 => by
    have e1 : cA = g.2.1 2 := Option.some.inj ((hK1.2 6 (cA, .long) rfl).2.symm.trans (hK1.2 2 (g.2.1 2, .long) rfl).2)
    subst e1
    exact kk q H1 ⟨hP1, hD1⟩ hS1)
theorem n_newP (X : gcx g A p s m args c cc nL R_Web) (hW : nW g A Z H) (hS : va_S A s.heap H locs) (hA : ∀ q, s.heap.size ≤ q → A q) {i : Int32} {N : Nat} (hn : ¬ i < 0) (hN : i.toNatClampNeg = N) (hN2 : N ≤ 1000) (hc : cells + 1 ≤ R.cells) (hs : slots + N ≤ R.slots) (hdg : decode cc pc = .ok (.anewarray 9, 3))
    (kk : ∀ (q : Nat) (H1 : Heap), nW g A (Z ++ [(q, .inl (g.2.1 3, N, .inr (.inr (.inr (.inr (fun _ => none))))))]) H1 → va_S A s.heap H1 locs → W p l e R s m args below meth c H1 locs (cells + 1) (slots + N) Q (F0 m (pc + 3) ls (.ref q :: rest))) : W p l e R s m args below meth c H locs cells slots Q (F0 m pc ls (.int i :: rest)) :=
  va_newq (C := R_Page) X.1.1 X.1.2.1 X.1.2.2.2.1 (X.1.2.2.2.2 _ (gWG_in (List.mem_append_right _ q26) rfl)) X.2.2.2.2.1 X.2.1 hW.1 hW.2 hS hA hn hN (by omega) hc hs hdg (fun q cA H1 hK1 hP1 hD1 hS1 => by
    obtain ⟨-, -, -, -, -, h1⟩ := (hK1.2 6 (cA, .object R_Page) rfl).2
    obtain ⟨-, -, -, -, -, h2⟩ := (hK1.2 3 (g.2.1 3, .object R_Page) rfl).2
    have e1 : cA = g.2.1 3 := Option.some.inj (h1.symm.trans h2)
    subst e1
    exact kk q H1 ⟨hP1, hD1⟩ hS1)
theorem n_newH (X : gcx g A p s m args c cc nL R_Web) (hW : nW g A Z H) (hS : va_S A s.heap H locs) (hA : ∀ q, s.heap.size ≤ q → A q) {i : Int32} {N : Nat} (hn : ¬ i < 0) (hN : i.toNatClampNeg = N) (hN2 : N ≤ 1000) (hc : cells + 1 ≤ R.cells) (hs : slots + N ≤ R.slots) (hdg : decode cc pc = .ok (.anewarray 17, 3))
    (kk : ∀ (q : Nat) (H1 : Heap), nW g A (Z ++ [(q, .inl (g.2.1 4, N, .inr (.inr (.inr (.inr (fun _ => none))))))]) H1 → va_S A s.heap H1 locs → W p l e R s m args below meth c H1 locs (cells + 1) (slots + N) Q (F0 m (pc + 3) ls (.ref q :: rest))) : W p l e R s m args below meth c H locs cells slots Q (F0 m pc ls (.int i :: rest)) :=
  va_newq (C := R_Host) X.1.1 X.1.2.1 X.1.2.2.2.1 (X.1.2.2.2.2 _ (gWG_in (List.mem_append_right _ q28) rfl)) X.2.2.2.2.2 X.2.1 hW.1 hW.2 hS hA hn hN (by omega) hc hs hdg (fun q cA H1 hK1 hP1 hD1 hS1 => by
    obtain ⟨-, -, -, -, -, h1⟩ := (hK1.2 6 (cA, .object R_Host) rfl).2
    obtain ⟨-, -, -, -, -, h2⟩ := (hK1.2 4 (g.2.1 4, .object R_Host) rfl).2
    have e1 : cA = g.2.1 4 := Option.some.inj (h1.symm.trans h2)
    subst e1
    exact kk q H1 ⟨hP1, hD1⟩ hS1)
/-- a Host among the hosts -/
theorem n_astH (X : gcx g A p s m args c cc nL own) (hW : nW g A (Z ++ Y) H) (hS : va_S A s.heap H locs) (i j : Nat) {a v : Nat} {vs : List Value} {f : Nat → Option Nat} (ha : Y[i]? = some (a, .inl (g.2.1 4, 6, .inr (.inr (.inr (.inr f)))))) (hv : Y[j]? = some (v, .inr (2, vs))) {x : Int32} (hin : vp_in x 6) (hdg : decode cc pc = .ok (.aastore, 1))
    (kk : ∀ (H1 : Heap) (locs1 : List Loc), nW g A (Z ++ Y.set i (a, .inl (g.2.1 4, 6, .inr (.inr (.inr (.inr (va_up f x.toNatClampNeg (some v)))))))) H1 → va_S A s.heap H1 locs1 → W p l e R s m args below meth c H1 locs1 cells slots Q (F0 m (pc + 1) ls rest)) : W p l e R s m args below meth c H locs cells slots Q (F0 m pc ls (.ref v :: .int x :: .ref a :: rest)) :=
  va_astq X.1.1 X.1.2.1 X.2.1 hW.1 hW.2 hS (Z.length + i) 4 (Z.length + j) 2 (nz_at ha) (r := (R_Host, F_Host, 3)) rfl (nz_at hv) rfl hin hdg (fun H1 locs1 hP hD hS1 => kk H1 locs1 (by rw [nz_set] at hP hD; exact ⟨hP, hD⟩) hS1)
theorem arrV_ext {c : ClassId} {n : Nat} {f h : Nat → Value} (e : ∀ i, i < n → f i = h i) : arrV c n f = arrV c n h := by
  unfold arrV
  congr 1
  apply Array.ext
  · simp
  · intro i h1 h2
    simp only [Array.getElem_ofFn, List.getElem_toArray, List.getElem_map, List.getElem_range]
    exact e i (by simpa using h1)
theorem outerC_arr (c : ClassId) (N h0 : Nat) : ∀ i : Nat, Jvm.Free.Multi.outerC c N h0 i = arrV c N (fun j => if j < i then .ref (h0 + 1 + j) else .null)
  | 0 => by
    show ({ cls := c, slots := Array.replicate N .null, vm := .none } : Cell) = _
    rw [arrV_new]
    exact arrV_ext (fun j _ => by rw [if_neg (Nat.not_lt_zero _)])
  | i + 1 => by
    show (Jvm.Free.Multi.outerC c N h0 i).setSlot i (.ref (h0 + 1 + i)) = _
    rw [outerC_arr c N h0 i, arrV_store]
    refine arrV_ext (fun j _ => ?_)
    by_cases e : j = i
    · subst e
      simp [updV]
    · by_cases h : j < i
      · simp [updV, e, h, Nat.lt_succ_of_lt h]
      · simp [updV, e, h, show ¬ j < i + 1 by omega]
theorem n_rows {g : gG} {A : Nat → Prop} {Z : va_W} {H H1 : Heap} {q : Nat} {x : va_E} (hW : nW g A Z H) (hq : q = H.size) (hA : ∀ a, q ≤ a → A a) (ho : ∀ a, a < H.size → H1[a]? = H[a]?) (h0 : va_at g.1 gcl (q, x) H1) (f : Nat → va_E) (N : Nat) (hr : ∀ i, i < N → va_at g.1 gcl (q + 1 + i, f i) H1) : nW g A (Z ++ ((q, x) :: (List.range N).map (fun i => (q + 1 + i, f i)))) H1 := by
  have key : ∀ (k : Nat) (z : Nat × va_E), ((q, x) :: (List.range N).map (fun i => (q + 1 + i, f i)))[k]? = some z → z.1 = q + k ∧ va_at g.1 gcl z H1 := by
    intro k z hz
    match k with
    | 0 => cases hz; exact ⟨rfl, h0⟩
    | k + 1 =>
      rw [List.getElem?_cons_succ, List.getElem?_map] at hz
      by_cases hk : k < N
      · rw [List.getElem?_range hk] at hz
        cases hz
        exact ⟨by show q + 1 + k = q + (k + 1); omega, hr k hk⟩
      · rw [List.getElem?_eq_none (by rw [List.length_range]; omega)] at hz
        cases hz
  refine ⟨(hW.1.kept (fun k z hz => ho z.1 ((hW.1 k z hz).lt))).app (fun k z hz => (key k z hz).2), va_D.app hW.2 ⟨fun i j a b hi hj e => ?_, fun k z hz => hA _ (by rw [(key k z hz).1]; omega)⟩ (fun i j a b hi hj e => ?_)⟩
  · have h1 := (key i a hi).1
    have h2 := (key j b hj).1
    omega
  · have h1 := (hW.1 i a hi).lt
    have h2 := (key j b hj).1
    omega
theorem n_mna (X : gcx g A p s m args c cc nL R_Rank) (hO : nO s) (hW : nW g A Z H) (hS : va_S A s.heap H locs) (hA : ∀ q, s.heap.size ≤ q → A q) (hc : cells + 33 ≤ R.cells) (hs : slots + 192 ≤ R.slots) (hdg : decode cc pc = .ok (.multianewarray 28 2, 4))
    (kk : ∀ (q : Nat) (H1 : Heap), nW g A (Z ++ ((q, .inl (g.2.1 5, 32, .inr (.inr (.inr (.inr (fun d => some (q + 1 + d))))))) :: (List.range 32).map (fun i => (q + 1 + i, .inl (g.2.1 0, 5, .inl (fun _ => 0)))))) H1 → va_S A s.heap H1 locs → W p l e R s m args below meth c H1 locs (cells + 33) (slots + 192) Q (F0 m (pc + 4) ls (.ref q :: rest))) : W p l e R s m args below meth c H locs cells slots Q (F0 m pc ls (.int 5 :: .int 32 :: rest)) := by
  intro T hT Xs
  have hb := X.1.2.1
  obtain ⟨vm₁, cA, comp, -, fA, fC, -, -, X', step⟩ := Xs.multianewarray2F (n := 32) (k := 5) (ty := .int) X.1.1 X.1.2.2.2.1 (X.1.2.2.2.2 _ (gWG_in (List.mem_append_right _ q155) rfl)) (show _ from hO) (X.1.2.2.2.2 _ w_aI) (g := F0 m pc ls (.int 5 :: .int 32 :: rest)) rfl (by rw [hb]; exact hdg) rfl (by decide) (by decide) (by decide) (by decide) (by decide) rfl rfl hc hs
  have eA : cA = g.2.1 5 := Option.some.inj (fA.symm.trans (X.2.1.2 5 (g.2.1 5, .array .int) rfl).2)
  have eC : comp = g.2.1 0 := Option.some.inj (fC.symm.trans (X.2.1.2 0 (g.2.1 0, .int) rfl).2)
  subst eA
  subst eC
  obtain ⟨f1, f2, -, -⟩ := Jvm.Free.Multi.fill_facts (T.setVm vm₁) (g.2.1 5) (g.2.1 0) (Int32.toNatClampNeg 32) (Int32.toNatClampNeg 5) (defaultValue .int) (Int32.toNatClampNeg 32)
  have hold : ∀ x : Nat, x < H.size → (Jvm.Free.Multi.fill (T.setVm vm₁) (g.2.1 5) (g.2.1 0) (Int32.toNatClampNeg 32) (Int32.toNatClampNeg 5) (defaultValue .int) (Int32.toNatClampNeg 32)).heap[x]? = H[x]? := fun x hx => by
    rw [Jvm.Free.Multi.fill_old (T.setVm vm₁) _ _ _ _ _ (a := x) (by show x < T.heap.size; rw [hT]; exact hx) _]
    show T.heap[x]? = _
    rw [hT]
  have hin := Jvm.Free.Multi.fill_inner (T.setVm vm₁) (g.2.1 5) (g.2.1 0) (Int32.toNatClampNeg 32) (Int32.toNatClampNeg 5) (defaultValue .int) (Int32.toNatClampNeg 32)
  generalize Jvm.Free.Multi.fill (T.setVm vm₁) (g.2.1 5) (g.2.1 0) (Int32.toNatClampNeg 32) (Int32.toNatClampNeg 5) (defaultValue .int) (Int32.toNatClampNeg 32) = F at X' step f1 f2 hold hin
  have hz : (T.setVm vm₁).heap.size = H.size := congrArg Array.size hT
  rw [hz] at f1 f2 hin
  rw [outerC_arr] at f2
  have hW1 : nW g A (Z ++ ((H.size, .inl (g.2.1 5, 32, .inr (.inr (.inr (.inr (fun d => some (H.size + 1 + d))))))) :: (List.range 32).map (fun i => (H.size + 1 + i, .inl (g.2.1 0, 5, .inl (fun _ => 0)))))) F.heap := by
    refine n_rows hW rfl (fun a ha => hA a (Nat.le_trans hS.1 ha)) hold ?_ (fun _ => .inl (g.2.1 0, 5, .inl (fun _ => 0))) 32 (fun i hi => ?_)
    · show F.heap[H.size]? = some (vp_cell _ _)
      rw [f2, vp_cell_q]
      exact congrArg some (arrV_ext (fun j hj => (if_pos hj)))
    · show F.heap[H.size + 1 + i]? = some (vp_cell _ _)
      rw [hin i hi, vp_cell_i, ← arrV_new]
      rfl
  have hS1 : va_S A s.heap F.heap locs := ⟨Nat.le_trans hS.1 (by rw [f1]; omega), fun x h1 h2 => (hold x (Nat.lt_of_lt_of_le h1 hS.1)).trans (hS.2.1 x h1 h2), hS.2.2⟩
  obtain ⟨t, a1, b1⟩ := kk H.size F.heap hW1 hS1 F rfl X'
  exact ⟨t, step t (by rw [hT]; exact a1), b1⟩
end GNW
