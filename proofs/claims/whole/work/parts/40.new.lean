/-! New cells: worlds as lists, and the contracts of constructors. -/
def nW (g : gG) (A : Nat → Prop) (Z : va_W) (H : Heap) : Prop := va_P g.1 gcl Z H ∧ va_D A Z
def nB (g : gG) (A : Nat → Prop) (Z : va_W) (U : State) : Prop := nW g A Z U.heap ∧ gK g A U ∧ ∀ q, U.heap.size ≤ q → A q
def CtN (l : Launch) (y : MethodName) (b : ByteArray) (nl d mc ms : Nat) (As : List Value) (g : gG) (A : Nat → Prop) (Z : va_W) (post : va_W → Prop) : Prop := Met l y (.code y b nl none :: gWG) (rmD d mc ms) (va_Pc As (nB g A Z)) (va_Qv post (fun Z' U => nW g A Z' U.heap) A) mc ms A
def BdN (l : Launch) (b : ByteArray) (nl : Nat) (own : String) (d mc ms : Nat) (As : List Value) (g : gG) (A : Nat → Prop) (Z : va_W) (post : va_W → Prop) : Prop :=
  ∀ (p : Program) (e : Env) (R : Room) (s : State) (m : MethodId) (args : Array Value) (below : List Frame) (meth : Method) (c : Code) (Q : State → Prop) (ls : Array Slot), gcx g A p s m args c b nl own → meth.name = "<init>" → nW g A Z s.heap → va_S A s.heap s.heap [] → (∀ q, s.heap.size ≤ q → A q) → d ≤ R.frames ∧ 40 * d ≤ R.locals → mc ≤ R.cells ∧ ms ≤ R.slots → lv_has ls nl (lv_args 0 As) →
    (∀ (Z' : va_W) (H : Heap) (locs : List Loc) (pc : Nat) (ls : Array Slot), post Z' → nW g A Z' H → va_S A s.heap H locs → decode b pc = .ok (.return_, 1) → W p l e R s m args below meth c H locs mc ms Q (F0 m pc ls [])) → W p l e R s m args below meth c s.heap [] 0 0 Q (F0 m 0 ls [])
theorem mkN {l : Launch} {y : MethodName} {b : ByteArray} {nl d mc ms : Nat} {As : List Value} {g : gG} {A : Nat → Prop} {Z : va_W} {own : String} {post : va_W → Prop} (hy : plainName y.cls = true) (ho : y.cls = own) (hnm : y.name = "<init>") (hlen : (lg_sl As).length ≤ nl) (h : BdN l b nl own d mc ms As g A Z post) : CtN l y b nl d mc ms As g A Z post := by
  refine Met.ofW (cc := b) (maxL := nl) (ret := none) hy rfl ?_
  intro p e s m args below meth c s₁ B hml hv
  obtain ⟨rfl, hW, hK, hA⟩ := hv
  subst ho
  have hts := atoms_spec (ws := .code y b nl none :: gWG) B.pre
  have hl := lv_entry As (n := nl) hlen
  have hin : meth.name = "<init>" := (name_of_methodNamed B.named B.method).1.trans hnm
  rw [lg_entry_eq]
  generalize (lg_sl As ++ List.replicate (nl - (lg_sl As).length) Slot.unset).toArray = ls at hl ⊢
  have hlocks := B.notSynchronized
  exact h p e _ s m _ below meth c _ ls ⟨⟨B.exec, B.bytes, hml, findClass_of_methodNamed B.named, fun w hw => hts w (List.mem_cons_of_mem _ hw)⟩, hK⟩ hin hW va_S.rf hA ⟨Nat.le_refl _, Nat.le_refl _⟩ ⟨Nat.le_refl _, Nat.le_refl _⟩ hl (fun Z' H locs pc ls hp hW1 hS1 hd => W.vret B.exec B.bytes B.returns (fun t' ht _ => ⟨⟨Z', rfl, hp, by show nW _ _ _ _; rw [ht]; exact hW1⟩, hS1.F ht⟩) hS1.2.2 hd hlocks)
def gwI (own : String) (index : Nat) (y : MethodName) (b : ByteArray) (nl n : Nat) : Prop := Cond.methodLink own index y ∈ gWG ∧ Cond.instanceMethod y ∈ gWG ∧ Cond.initialized y.cls ∈ gWG ∧ Cond.code y b nl none ∈ gWG ∧ y.name = "<init>" ∧ gwD y n
theorem nz_at {Z Y : va_W} {i : Nat} {x : Nat × va_E} (h : Y[i]? = some x) : (Z ++ Y)[Z.length + i]? = some x := by
  rw [List.getElem?_append_right (by omega), show Z.length + i - Z.length = i by omega]
  exact h
theorem nz_set (Z Y : va_W) (i : Nat) (x : Nat × va_E) : (Z ++ Y).set (Z.length + i) x = Z ++ Y.set i x := by
  rw [List.set_append_right _ _ (by omega), show Z.length + i - Z.length = i by omega]
theorem w_o_inst : Cond.instanceMethod Lib.objectInit ∈ gWG := gWG_in (List.mem_append_right _ q18) rfl
theorem w_o_code : Cond.code Lib.objectInit ⟨#[0xb1]⟩ 1 none ∈ gWG := gWG_in (List.mem_append_right _ q19) rfl
theorem w_aI : Cond.arrayClass .int ∈ gWG := gWG_in (List.mem_append_right _ q45) rfl
theorem w_aZ : Cond.arrayClass .boolean ∈ gWG := gWG_in (List.mem_append_right _ q46) rfl
theorem w_aJ : Cond.arrayClass .long ∈ gWG := gWG_in (List.mem_append_right _ q183) rfl
section GNW
variable {p : Program} {l : Launch} {e : Env} {R : Room} {s : State} {m : MethodId} {args : Array Value} {below : List Frame} {meth : Method} {c : Code} {H : Heap} {locs : List Loc} {cells slots : Nat} {Q : State → Prop}
variable {cc : ByteArray} {pc nL : Nat} {ls : Array Slot} {rest st0 : List Value} {g : gG} {A : Nat → Prop} {Z Y : va_W} {own : String} {index n maxL d mc ms : Nat} {y : MethodName} {bytes : ByteArray} {b : Nat} {As : List Value}
theorem n_ctor {post : va_W → Prop} (X : gcx g A p s m args c cc nL own) (hw : gwI own index y bytes maxL n) (hM : CtN l y bytes maxL d mc ms (.ref b :: As) g A Z post) (hW : nW g A Z H) (hS : va_S A s.heap H locs) (hA : ∀ q, s.heap.size ≤ q → A q) (hR : d + 1 ≤ R.frames ∧ 8 + (maxL + 11) + 40 * d ≤ R.locals) (hn : As.length = n) (hls : ls.size = nL) (hst : st0 = As.reverse ++ .ref b :: rest) (hcat : (rest.map fun v => v.category).sum ≤ 8) (hdg : decode cc pc = .ok (.invokespecial index, 3)) (hcr : cells + mc ≤ R.cells ∧ slots + ms ≤ R.slots)
    (kk : ∀ (Z' : va_W) (H1 : Heap) (locs1 : List Loc), post Z' → nW g A Z' H1 → va_S A s.heap H1 locs1 → W p l e R s m args below meth c H1 locs1 (cells + mc) (slots + ms) Q (F0 m (pc + 3) ls rest)) : W p l e R s m args below meth c H locs cells slots Q (F0 m pc ls st0) := by
  subst hst
  have hts := X.1.2.2.2.2
  obtain ⟨h1, h2, h4, h5, h7, h6⟩ := hw
  exact va_callv (va_runI X.1 hM (cwI n hts (gWG_cons h5) rfl rfl rfl (hts _ h4) (hts _ h1) (hts _ h2) h7 h6 hR) ⟨fun a U f mk h => ⟨h.1, h.2.1, gK_calling h.2.2.1 f mk a, h.2.2.2⟩, fun U hU hw => ⟨rfl, by rw [hU]; exact hW, gK_moved X.2 hS hU hw, fun q h => hA q (Nat.le_trans hS.1 (by rw [← hU]; exact h))⟩⟩ rfl hn hls rfl (lv_room hcat) hdg hcr) hS (fun _ _ h => h) (fun _ h => h) (fun t t' H1 locs1 ht _ hp hB _ _ hS1 => kk t H1 locs1 hp (by rw [← ht]; exact hB) hS1)
theorem n_newI (X : gcx g A p s m args c cc nL own) (hW : nW g A Z H) (hS : va_S A s.heap H locs) (hA : ∀ q, s.heap.size ≤ q → A q) {i : Int32} {N : Nat} (hn : ¬ i < 0) (hN : i.toNatClampNeg = N) (hN2 : N ≤ 1000) (hc : cells + 1 ≤ R.cells) (hs : slots + N ≤ R.slots) (hdg : decode cc pc = .ok (.newarray .int, 2))
    (kk : ∀ (q : Nat) (H1 : Heap), nW g A (Z ++ [(q, .inl (g.2.1 0, N, .inl (fun _ => 0)))]) H1 → va_S A s.heap H1 locs → W p l e R s m args below meth c H1 locs (cells + 1) (slots + N) Q (F0 m (pc + 2) ls (.ref q :: rest))) : W p l e R s m args below meth c H locs cells slots Q (F0 m pc ls (.int i :: rest)) :=
  va_newa X.1.1 X.1.2.1 (X.1.2.2.2.2 _ w_aI) (atype := .int) (ty := .int) rfl X.2.1 hW.1 hW.2 hS hA (a0 := (N, .inl (fun _ => 0))) (fun cA => rfl) hn hN (by show N * 4 ≤ _; omega) hc hs hdg (fun q cA H1 hK1 hP1 hD1 hS1 => by
    have e1 : cA = g.2.1 0 := Option.some.inj ((hK1.2 6 (cA, .int) rfl).2.symm.trans (hK1.2 0 (g.2.1 0, .int) rfl).2)
    subst e1
    exact kk q H1 ⟨hP1, hD1⟩ hS1)
theorem n_newZ (X : gcx g A p s m args c cc nL own) (hW : nW g A Z H) (hS : va_S A s.heap H locs) (hA : ∀ q, s.heap.size ≤ q → A q) {i : Int32} {N : Nat} (hn : ¬ i < 0) (hN : i.toNatClampNeg = N) (hN2 : N ≤ 1000) (hc : cells + 1 ≤ R.cells) (hs : slots + N ≤ R.slots) (hdg : decode cc pc = .ok (.newarray .boolean, 2))
    (kk : ∀ (q : Nat) (H1 : Heap), nW g A (Z ++ [(q, .inl (g.2.1 1, N, .inl (fun _ => 0)))]) H1 → va_S A s.heap H1 locs → W p l e R s m args below meth c H1 locs (cells + 1) (slots + N) Q (F0 m (pc + 2) ls (.ref q :: rest))) : W p l e R s m args below meth c H locs cells slots Q (F0 m pc ls (.int i :: rest)) :=
  va_newa X.1.1 X.1.2.1 (X.1.2.2.2.2 _ w_aZ) (atype := .boolean) (ty := .boolean) rfl X.2.1 hW.1 hW.2 hS hA (a0 := (N, .inl (fun _ => 0))) (fun cA => rfl) hn hN (by show N * 1 ≤ _; omega) hc hs hdg (fun q cA H1 hK1 hP1 hD1 hS1 => by
    have e1 : cA = g.2.1 1 := Option.some.inj ((hK1.2 6 (cA, .boolean) rfl).2.symm.trans (hK1.2 1 (g.2.1 1, .boolean) rfl).2)
    subst e1
    exact kk q H1 ⟨hP1, hD1⟩ hS1)
theorem n_newJ (X : gcx g A p s m args c cc nL own) (hW : nW g A Z H) (hS : va_S A s.heap H locs) (hA : ∀ q, s.heap.size ≤ q → A q) {i : Int32} {N : Nat} (hn : ¬ i < 0) (hN : i.toNatClampNeg = N) (hN2 : N ≤ 1000) (hc : cells + 1 ≤ R.cells) (hs : slots + N ≤ R.slots) (hdg : decode cc pc = .ok (.newarray .long, 2))
    (kk : ∀ (q : Nat) (H1 : Heap), nW g A (Z ++ [(q, .inl (g.2.1 2, N, .inr (.inl (fun _ => 0))))]) H1 → va_S A s.heap H1 locs → W p l e R s m args below meth c H1 locs (cells + 1) (slots + N) Q (F0 m (pc + 2) ls (.ref q :: rest))) : W p l e R s m args below meth c H locs cells slots Q (F0 m pc ls (.int i :: rest)) :=
  va_newa X.1.1 X.1.2.1 (X.1.2.2.2.2 _ w_aJ) (atype := .long) (ty := .long) rfl X.2.1 hW.1 hW.2 hS hA (a0 := (N, .inr (.inl (fun _ => 0)))) (fun cA => rfl) hn hN (by show N * 8 ≤ _; omega) hc hs hdg (fun q cA H1 hK1 hP1 hD1 hS1 => by
    have e1 : cA = g.2.1 2 := Option.some.inj ((hK1.2 6 (cA, .long) rfl).2.symm.trans (hK1.2 2 (g.2.1 2, .long) rfl).2)
    subst e1
    exact kk q H1 ⟨hP1, hD1⟩ hS1)
theorem n_newP (X : gcx g A p s m args c cc nL R_Web) (hW : nW g A Z H) (hS : va_S A s.heap H locs) (hA : ∀ q, s.heap.size ≤ q → A q) {i : Int32} {N : Nat} (hn : ¬ i < 0) (hN : i.toNatClampNeg = N) (hN2 : N ≤ 1000) (hc : cells + 1 ≤ R.cells) (hs : slots + N ≤ R.slots) (hdg : decode cc pc = .ok (.anewarray 9, 3))
    (kk : ∀ (q : Nat) (H1 : Heap), nW g A (Z ++ [(q, .inl (g.2.1 3, N, .inr (.inr (.inr (.inr (fun _ => none))))))]) H1 → va_S A s.heap H1 locs → W p l e R s m args below meth c H1 locs (cells + 1) (slots + N) Q (F0 m (pc + 3) ls (.ref q :: rest))) : W p l e R s m args below meth c H locs cells slots Q (F0 m pc ls (.int i :: rest)) :=
  va_newq (C := R_Page) X.1.1 X.1.2.1 X.1.2.2.2.1 (X.1.2.2.2.2 _ (gWG_in (List.mem_append_right _ q26) rfl)) X.2.2.2.2.1 X.2.1 hW.1 hW.2 hS hA hn hN (by omega) hc hs hdg (fun q cA H1 hK1 hP1 hD1 hS1 => by
    obtain ⟨-, -, -, -, -, h1⟩ := (hK1.2 6 (cA, .object R_Page) rfl).2
    obtain ⟨-, -, -, -, -, h2⟩ := (hK1.2 3 (g.2.1 3, .object R_Page) rfl).2
    have e1 : cA = g.2.1 3 := Option.some.inj (h1.symm.trans h2)
    subst e1
    exact kk q H1 ⟨hP1, hD1⟩ hS1)
theorem n_newH (X : gcx g A p s m args c cc nL R_Web) (hW : nW g A Z H) (hS : va_S A s.heap H locs) (hA : ∀ q, s.heap.size ≤ q → A q) {i : Int32} {N : Nat} (hn : ¬ i < 0) (hN : i.toNatClampNeg = N) (hN2 : N ≤ 1000) (hc : cells + 1 ≤ R.cells) (hs : slots + N ≤ R.slots) (hdg : decode cc pc = .ok (.anewarray 17, 3))
    (kk : ∀ (q : Nat) (H1 : Heap), nW g A (Z ++ [(q, .inl (g.2.1 4, N, .inr (.inr (.inr (.inr (fun _ => none))))))]) H1 → va_S A s.heap H1 locs → W p l e R s m args below meth c H1 locs (cells + 1) (slots + N) Q (F0 m (pc + 3) ls (.ref q :: rest))) : W p l e R s m args below meth c H locs cells slots Q (F0 m pc ls (.int i :: rest)) :=
  va_newq (C := R_Host) X.1.1 X.1.2.1 X.1.2.2.2.1 (X.1.2.2.2.2 _ (gWG_in (List.mem_append_right _ q28) rfl)) X.2.2.2.2.2 X.2.1 hW.1 hW.2 hS hA hn hN (by omega) hc hs hdg (fun q cA H1 hK1 hP1 hD1 hS1 => by
    obtain ⟨-, -, -, -, -, h1⟩ := (hK1.2 6 (cA, .object R_Host) rfl).2
    obtain ⟨-, -, -, -, -, h2⟩ := (hK1.2 4 (g.2.1 4, .object R_Host) rfl).2
    have e1 : cA = g.2.1 4 := Option.some.inj (h1.symm.trans h2)
    subst e1
    exact kk q H1 ⟨hP1, hD1⟩ hS1)
/-- a Host among the hosts -/
theorem n_astH (X : gcx g A p s m args c cc nL own) (hW : nW g A (Z ++ Y) H) (hS : va_S A s.heap H locs) (i j : Nat) {a v : Nat} {vs : List Value} {f : Nat → Option Nat} (ha : Y[i]? = some (a, .inl (g.2.1 4, 6, .inr (.inr (.inr (.inr f)))))) (hv : Y[j]? = some (v, .inr (2, vs))) {x : Int32} (hin : vp_in x 6) (hdg : decode cc pc = .ok (.aastore, 1))
    (kk : ∀ (H1 : Heap) (locs1 : List Loc), nW g A (Z ++ Y.set i (a, .inl (g.2.1 4, 6, .inr (.inr (.inr (.inr (va_up f x.toNatClampNeg (some v)))))))) H1 → va_S A s.heap H1 locs1 → W p l e R s m args below meth c H1 locs1 cells slots Q (F0 m (pc + 1) ls rest)) : W p l e R s m args below meth c H locs cells slots Q (F0 m pc ls (.ref v :: .int x :: .ref a :: rest)) :=
  va_astq X.1.1 X.1.2.1 X.2.1 hW.1 hW.2 hS (Z.length + i) 4 (Z.length + j) 2 (nz_at ha) (r := (R_Host, F_Host, 3)) rfl (nz_at hv) rfl hin hdg (fun H1 locs1 hP hD hS1 => kk H1 locs1 (by rw [nz_set] at hP hD; exact ⟨hP, hD⟩) hS1)
end GNW
