/-! Contracts over the world, and calls by them. -/
def rmD (d c s : Nat) : Room := { frames := d, cells := c, slots := s, locals := 40 * d }
def gWG : List Cond := lw_tbl.filter goodWord
theorem gWG_in {w : Cond} (h : w ∈ lw_tbl) (hg : goodWord w = true) : w ∈ gWG := List.mem_filter.mpr ⟨h, hg⟩
theorem gWG_good {x : Cond} {ws : List Cond} (h : ∀ w ∈ ws, w ∈ gWG) : GoodIn (x :: gWG) ws := fun w hw => ⟨List.mem_cons_of_mem _ (h w hw), good_of_word (List.mem_filter.mp (h w hw)).2⟩
theorem gWG_good0 {ws : List Cond} (h : ∀ w ∈ ws, w ∈ gWG) : GoodIn gWG ws := fun w hw => ⟨h w hw, good_of_word (List.mem_filter.mp (h w hw)).2⟩
def gNok : Cond → Bool
  | .fieldLinkNest .. => true
  | .methodLinkNest .. => true
  | _ => false
def gN : List Cond := lw_tbl.filter gNok
theorem gN_in {w : Cond} (h : w ∈ lw_tbl) (hg : gNok w = true) : w ∈ gN := List.mem_filter.mpr ⟨h, hg⟩
theorem gN_moved {w : Cond} (h : w ∈ gN) {s U : State} (hW : s.WarmedH U.vm) (hZ : va_Nw w s) : va_Nw w U := by
  have h1 := (List.mem_filter.mp h).2
  cases w <;> first | exact va_Nw.warmF hW hZ | exact va_Nw.warmM hW hZ | (exact absurd h1 (by simp [gNok]))
theorem gN_same {w : Cond} (h : w ∈ gN) {u U : State} (hW : u.vm = U.vm) (hZ : va_Nw w u) : va_Nw w U := by
  have h1 := (List.mem_filter.mp h).2
  cases w <;> first | exact va_Nw.same rfl hW hZ | (exact absurd h1 (by simp [gNok]))
/-- what a method takes as given of the tables, beside the words -/
def gK (g : gG) (A : Nat → Prop) (U : State) : Prop := va_K g.1 gcl (gty g) U ∧ va_En R_Reply gRd ["HERE", "MOVED", "GONE"] [] g.2.2 A U U.heap ∧ (∀ w ∈ gN, va_Nw w U) ∧ va_AO R_Page U ∧ va_AO R_Host U
theorem gK_moved {g : gG} {A : Nat → Prop} {s U : State} {H : Heap} {locs : List Loc} (h : gK g A s) (hS : va_S A s.heap H locs) (hU : U.heap = H) (hW : s.WarmedH U.vm) : gK g A U := by
  obtain ⟨h1, h2, h3, h4, h5⟩ := h
  refine ⟨va_K.moved hW.alike h1, ?_, fun w hw => gN_moved hw hW (h3 w hw), va_AO.moved hW.alike h4, va_AO.moved hW.alike h5⟩
  rw [hU]
  exact va_En.moved hW.alike (h2.kept hS.2.1)
theorem gK_calling {g : gG} {A : Nat → Prop} {U : State} (h : gK g A U) (f : JFrame) (mk : MethodId) (a : Array Value) : gK g A (U.calling f mk a) := by
  obtain ⟨h1, h2, h3, h4, h5⟩ := h
  exact ⟨va_K.moved (u := U) (U := U.calling f mk a) (Vm.Alike.refl U.vm) h1, va_En.moved (u := U) (U := U.calling f mk a) (Vm.Alike.refl U.vm) h2, fun w hw => gN_same (u := U) (U := U.calling f mk a) hw rfl (h3 w hw), va_AO.moved (u := U) (U := U.calling f mk a) (Vm.Alike.refl U.vm) h4, va_AO.moved (u := U) (U := U.calling f mk a) (Vm.Alike.refl U.vm) h5⟩
abbrev gcx (g : gG) (A : Nat → Prop) (p : Program) (s : State) (m : MethodId) (args : Array Value) (c : Code) (cc : ByteArray) (nL : Nat) (own : String) : Prop := CallFix p m c cc nL s args gWG own ∧ gK g A s
def gPc (As : List Value) (g : gG) (A : Nat → Prop) (ad : Nat → Nat) (np : Nat) (u v : gS) : Array Value → State → Prop := va_Pc As (fun U => gW g A ad np u v U.heap ∧ gK g A U)
theorem gPc_blind {As : List Value} {g : gG} {A : Nat → Prop} {ad : Nat → Nat} {np : Nat} {u v : gS} : FrameBlind (gPc As g A ad np u v) := fun a U f mk h => ⟨h.1, h.2.1, gK_calling h.2.2 f mk a⟩
theorem gPc_at {As : List Value} {g : gG} {A : Nat → Prop} {ad : Nat → Nat} {np : Nat} {u v : gS} {s : State} {H : Heap} {locs : List Loc} (hK : gK g A s) (hW : gW g A ad np u v H) (hS : va_S A s.heap H locs) : ∀ U : State, U.heap = H → s.WarmedH U.vm → gPc As g A ad np u v As.toArray U := fun U hU hw => ⟨rfl, by rw [hU]; exact hW, gK_moved hK hS hU hw⟩
def CtI (l : Launch) (y : MethodName) (b : ByteArray) (nl : Nat) (rt : FieldType) (d : Nat) (As : List Value) (g : gG) (A : Nat → Prop) (ad : Nat → Nat) (np : Nat) (u v : gS) (post : Int32 → gS × gS → Prop) : Prop := Met l y (.code y b nl (some rt) :: gWG) (rmD d 0 0) (gPc As g A ad np u v) (va_Qi post (fun t U => gW g A ad np t.1 t.2 U.heap) A) 0 0 A
def CtL (l : Launch) (y : MethodName) (b : ByteArray) (nl : Nat) (d : Nat) (As : List Value) (g : gG) (A : Nat → Prop) (ad : Nat → Nat) (np : Nat) (u v : gS) (post : Int64 → gS × gS → Prop) : Prop := Met l y (.code y b nl (some .long) :: gWG) (rmD d 0 0) (gPc As g A ad np u v) (va_Ql post (fun t U => gW g A ad np t.1 t.2 U.heap) A) 0 0 A
def CtV (l : Launch) (y : MethodName) (b : ByteArray) (nl : Nat) (d : Nat) (As : List Value) (g : gG) (A : Nat → Prop) (ad : Nat → Nat) (np : Nat) (u v : gS) (post : gS × gS → Prop) : Prop := Met l y (.code y b nl none :: gWG) (rmD d 0 0) (gPc As g A ad np u v) (va_Qv post (fun t U => gW g A ad np t.1 t.2 U.heap) A) 0 0 A
def BdI (l : Launch) (b : ByteArray) (nl : Nat) (own : String) (d : Nat) (As : List Value) (g : gG) (A : Nat → Prop) (ad : Nat → Nat) (np : Nat) (u v : gS) (post : Int32 → gS × gS → Prop) : Prop :=
  ∀ (p : Program) (e : Env) (R : Room) (s : State) (m : MethodId) (args : Array Value) (below : List Frame) (meth : Method) (c : Code) (Q : State → Prop) (ls : Array Slot), gcx g A p s m args c b nl own → gW g A ad np u v s.heap → va_S A s.heap s.heap [] → d ≤ R.frames ∧ 40 * d ≤ R.locals → lv_has ls nl (lv_args 0 As) →
    (∀ (r : Int32) (t : gS × gS) (H : Heap) (locs : List Loc) (pc : Nat) (ls : Array Slot), post r t → gW g A ad np t.1 t.2 H → va_S A s.heap H locs → decode b pc = .ok (.ireturn, 1) → W p l e R s m args below meth c H locs 0 0 Q (F0 m pc ls [.int r])) → W p l e R s m args below meth c s.heap [] 0 0 Q (F0 m 0 ls [])
def BdL (l : Launch) (b : ByteArray) (nl : Nat) (own : String) (d : Nat) (As : List Value) (g : gG) (A : Nat → Prop) (ad : Nat → Nat) (np : Nat) (u v : gS) (post : Int64 → gS × gS → Prop) : Prop :=
  ∀ (p : Program) (e : Env) (R : Room) (s : State) (m : MethodId) (args : Array Value) (below : List Frame) (meth : Method) (c : Code) (Q : State → Prop) (ls : Array Slot), gcx g A p s m args c b nl own → gW g A ad np u v s.heap → va_S A s.heap s.heap [] → d ≤ R.frames ∧ 40 * d ≤ R.locals → lv_has ls nl (lv_args 0 As) →
    (∀ (r : Int64) (t : gS × gS) (H : Heap) (locs : List Loc) (pc : Nat) (ls : Array Slot), post r t → gW g A ad np t.1 t.2 H → va_S A s.heap H locs → decode b pc = .ok (.lreturn, 1) → W p l e R s m args below meth c H locs 0 0 Q (F0 m pc ls [.long r])) → W p l e R s m args below meth c s.heap [] 0 0 Q (F0 m 0 ls [])
def BdV (l : Launch) (b : ByteArray) (nl : Nat) (own : String) (d : Nat) (As : List Value) (g : gG) (A : Nat → Prop) (ad : Nat → Nat) (np : Nat) (u v : gS) (post : gS × gS → Prop) : Prop :=
  ∀ (p : Program) (e : Env) (R : Room) (s : State) (m : MethodId) (args : Array Value) (below : List Frame) (meth : Method) (c : Code) (Q : State → Prop) (ls : Array Slot), gcx g A p s m args c b nl own → gW g A ad np u v s.heap → va_S A s.heap s.heap [] → d ≤ R.frames ∧ 40 * d ≤ R.locals → lv_has ls nl (lv_args 0 As) →
    (∀ (t : gS × gS) (H : Heap) (locs : List Loc) (pc : Nat) (ls : Array Slot), post t → gW g A ad np t.1 t.2 H → va_S A s.heap H locs → decode b pc = .ok (.return_, 1) → W p l e R s m args below meth c H locs 0 0 Q (F0 m pc ls [])) → W p l e R s m args below meth c s.heap [] 0 0 Q (F0 m 0 ls [])
section GMK
variable {l : Launch} {y : MethodName} {b : ByteArray} {nl d : Nat} {rt : FieldType} {As : List Value} {g : gG} {A : Nat → Prop} {ad : Nat → Nat} {np : Nat} {u v : gS} {own : String}
theorem mkI {post : Int32 → gS × gS → Prop} (hy : plainName y.cls = true) (ho : y.cls = own) (hlen : (lg_sl As).length ≤ nl) (hnar : ∀ r t, post r t → narrow rt (.int r) = .int r) (h : BdI l b nl own d As g A ad np u v post) : CtI l y b nl rt d As g A ad np u v post := by
  refine Met.ofW (cc := b) (maxL := nl) (ret := some rt) hy rfl ?_
  intro p e s m args below meth c s₁ B hml hv
  obtain ⟨rfl, hW, hK⟩ := hv
  subst ho
  have hts := atoms_spec (ws := .code y b nl (some rt) :: gWG) B.pre
  have hl := lv_entry As (n := nl) hlen
  rw [lg_entry_eq]
  generalize (lg_sl As ++ List.replicate (nl - (lg_sl As).length) Slot.unset).toArray = ls at hl ⊢
  have hlocks := B.notSynchronized
  exact h p e _ s m _ below meth c _ ls ⟨⟨B.exec, B.bytes, hml, findClass_of_methodNamed B.named, fun w hw => hts w (List.mem_cons_of_mem _ hw)⟩, hK⟩ hW va_S.rf ⟨Nat.le_refl _, Nat.le_refl _⟩ hl (fun r t H locs pc ls hp hW1 hS1 hd => W.zret B.exec B.bytes B.returns (hnar r t hp) (fun t' ht _ => ⟨⟨r, t, rfl, hp, by show gW _ _ _ _ _ _ _; rw [ht]; exact hW1⟩, hS1.F ht⟩) hS1.2.2 hd hlocks)
theorem mkL {post : Int64 → gS × gS → Prop} (hy : plainName y.cls = true) (ho : y.cls = own) (hlen : (lg_sl As).length ≤ nl) (h : BdL l b nl own d As g A ad np u v post) : CtL l y b nl d As g A ad np u v post := by
  refine Met.ofW (cc := b) (maxL := nl) (ret := some .long) hy rfl ?_
  intro p e s m args below meth c s₁ B hml hv
  obtain ⟨rfl, hW, hK⟩ := hv
  subst ho
  have hts := atoms_spec (ws := .code y b nl (some .long) :: gWG) B.pre
  have hl := lv_entry As (n := nl) hlen
  rw [lg_entry_eq]
  generalize (lg_sl As ++ List.replicate (nl - (lg_sl As).length) Slot.unset).toArray = ls at hl ⊢
  have hlocks := B.notSynchronized
  exact h p e _ s m _ below meth c _ ls ⟨⟨B.exec, B.bytes, hml, findClass_of_methodNamed B.named, fun w hw => hts w (List.mem_cons_of_mem _ hw)⟩, hK⟩ hW va_S.rf ⟨Nat.le_refl _, Nat.le_refl _⟩ hl (fun r t H locs pc ls hp hW1 hS1 hd => W.lret B.exec B.bytes B.returns (fun t' ht _ => ⟨⟨r, t, rfl, hp, by show gW _ _ _ _ _ _ _; rw [ht]; exact hW1⟩, hS1.F ht⟩) hS1.2.2 hd hlocks)
theorem mkV {post : gS × gS → Prop} (hy : plainName y.cls = true) (ho : y.cls = own) (hlen : (lg_sl As).length ≤ nl) (h : BdV l b nl own d As g A ad np u v post) : CtV l y b nl d As g A ad np u v post := by
  refine Met.ofW (cc := b) (maxL := nl) (ret := none) hy rfl ?_
  intro p e s m args below meth c s₁ B hml hv
  obtain ⟨rfl, hW, hK⟩ := hv
  subst ho
  have hts := atoms_spec (ws := .code y b nl none :: gWG) B.pre
  have hl := lv_entry As (n := nl) hlen
  rw [lg_entry_eq]
  generalize (lg_sl As ++ List.replicate (nl - (lg_sl As).length) Slot.unset).toArray = ls at hl ⊢
  have hlocks := B.notSynchronized
  exact h p e _ s m _ below meth c _ ls ⟨⟨B.exec, B.bytes, hml, findClass_of_methodNamed B.named, fun w hw => hts w (List.mem_cons_of_mem _ hw)⟩, hK⟩ hW va_S.rf ⟨Nat.le_refl _, Nat.le_refl _⟩ hl (fun t H locs pc ls hp hW1 hS1 hd => W.vret B.exec B.bytes B.returns (fun t' ht _ => ⟨⟨t, rfl, hp, by show gW _ _ _ _ _ _ _; rw [ht]; exact hW1⟩, hS1.F ht⟩) hS1.2.2 hd hlocks)
end GMK
/-- the words of a call: an instance method; a static one; a private static one of a nest mate -/
def gwD (y : MethodName) (n : Nat) : Prop := y.cls ≠ "java/lang/invoke/MethodHandle" ∧ y.cls ≠ "java/lang/invoke/VarHandle" ∧ (parseMethodDescriptor y.desc).map (fun d => d.parameters.length) = some n
def gwV (own : String) (index : Nat) (y : MethodName) (b : ByteArray) (nl : Nat) (ret : Option FieldType) (n : Nat) : Prop := Cond.methodLink own index y ∈ gWG ∧ Cond.instanceMethod y ∈ gWG ∧ Cond.selects y.cls y y ∈ gWG ∧ Cond.initialized y.cls ∈ gWG ∧ Cond.code y b nl ret ∈ gWG ∧ gwD y n
def gwS (own : String) (index : Nat) (y : MethodName) (b : ByteArray) (nl : Nat) (ret : Option FieldType) (n : Nat) : Prop := Cond.methodLink own index y ∈ gWG ∧ Cond.static y ∈ gWG ∧ Cond.initialized y.cls ∈ gWG ∧ Cond.code y b nl ret ∈ gWG ∧ gwD y n
def gwSN (own : String) (index : Nat) (y : MethodName) (host : String) (b : ByteArray) (nl : Nat) (ret : Option FieldType) (n : Nat) : Prop := Cond.methodLinkNest own index y host ∈ gN ∧ Cond.static y ∈ gWG ∧ Cond.initialized y.cls ∈ gWG ∧ Cond.code y b nl ret ∈ gWG ∧ gwD y n
theorem gWG_cons {x : Cond} (hx : x ∈ gWG) : GoodIn gWG (x :: gWG) := gWG_good0 (fun w hw => by rcases List.mem_cons.mp hw with rfl | h; exact hx; exact h)
section GCL
variable {p : Program} {l : Launch} {e : Env} {R : Room} {s : State} {m : MethodId} {args : Array Value} {below : List Frame} {meth : Method} {c : Code} {H : Heap} {locs : List Loc} {cells slots : Nat} {Q : State → Prop}
variable {cc : ByteArray} {pc nL : Nat} {ls : Array Slot} {rest st0 : List Value} {g : gG} {A : Nat → Prop} {ad : Nat → Nat} {np : Nat} {u v : gS} {own host : String} {index n maxL d : Nat} {y : MethodName} {bytes : ByteArray} {rt : FieldType} {b : Nat} {As : List Value}
theorem gcwV {ret : Option FieldType} (X : gcx g A p s m args c cc nL own) (hw : gwV own index y bytes maxL ret n) (hR : d + 1 ≤ R.frames ∧ 8 + (maxL + 11) + 40 * d ≤ R.locals) : CallW R s args own y.cls index y bytes maxL ret (.code y bytes maxL ret :: gWG) (rmD d 0 0) 0 0 n := by
  obtain ⟨⟨-, -, -, -, hts⟩, -⟩ := X
  obtain ⟨h1, h2, h3, h4, h5, h6⟩ := hw
  exact ⟨callB_of n hts (gWG_cons h5) rfl rfl rfl (hts _ h4) (hts _ h1) h6 hR, hts _ h2, hts _ h3⟩
theorem gcwS {ret : Option FieldType} (X : gcx g A p s m args c cc nL own) (hw : gwS own index y bytes maxL ret n) (hR : d + 1 ≤ R.frames ∧ 8 + (maxL + 11) + 40 * d ≤ R.locals) : CallB R s args own index y bytes maxL ret (.code y bytes maxL ret :: gWG) (rmD d 0 0) 0 0 n ∧ (Cond.static y).before args s = true := by
  obtain ⟨⟨-, -, -, -, hts⟩, -⟩ := X
  obtain ⟨h1, h2, h4, h5, h6⟩ := hw
  exact ⟨callB_of n hts (gWG_cons h5) rfl rfl rfl (hts _ h4) (hts _ h1) h6 hR, hts _ h2⟩
theorem gc_iV {post : Int32 → gS × gS → Prop} (X : gcx g A p s m args c cc nL own) (hw : gwV own index y bytes maxL (some rt) n) (hM : CtI l y bytes maxL rt d (.ref b :: As) g A ad np u v post) (hW : gW g A ad np u v H) (hS : va_S A s.heap H locs) (hv : ∃ cell : Cell, H[b]? = some cell ∧ cell.vm.isStatics = false ∧ s.vm.findClass y.cls = some cell.cls) (hR : d + 1 ≤ R.frames ∧ 8 + (maxL + 11) + 40 * d ≤ R.locals) (hn : As.length = n) (hls : ls.size = nL) (hst : st0 = As.reverse ++ .ref b :: rest) (hcat : (rest.map fun v => v.category).sum ≤ 8) (hdg : decode cc pc = .ok (.invokevirtual index, 3)) (hcr : cells + 0 ≤ R.cells ∧ slots + 0 ≤ R.slots)
    (kk : ∀ (r : Int32) (t : gS × gS) (H1 : Heap) (locs1 : List Loc), post r t → gW g A ad np t.1 t.2 H1 → va_S A s.heap H1 locs1 → W p l e R s m args below meth c H1 locs1 cells slots Q (F0 m (pc + 3) ls (.int r :: rest))) : W p l e R s m args below meth c H locs cells slots Q (F0 m pc ls st0) := by
  subst hst
  exact va_calli (va_runV X.1 hM (gcwV X hw hR) ⟨gPc_blind, hv, gPc_at X.2 hW hS⟩ rfl hn hls rfl (lv_room hcat) hdg hcr) hS (fun _ _ h => h) (fun _ h => h) (fun r t t' H1 locs1 ht _ hp hB _ _ hS1 => kk r t H1 locs1 hp (by rw [← ht]; exact hB) hS1)
theorem gc_lV {post : Int64 → gS × gS → Prop} (X : gcx g A p s m args c cc nL own) (hw : gwV own index y bytes maxL (some .long) n) (hM : CtL l y bytes maxL d (.ref b :: As) g A ad np u v post) (hW : gW g A ad np u v H) (hS : va_S A s.heap H locs) (hv : ∃ cell : Cell, H[b]? = some cell ∧ cell.vm.isStatics = false ∧ s.vm.findClass y.cls = some cell.cls) (hR : d + 1 ≤ R.frames ∧ 8 + (maxL + 11) + 40 * d ≤ R.locals) (hn : As.length = n) (hls : ls.size = nL) (hst : st0 = As.reverse ++ .ref b :: rest) (hcat : (rest.map fun v => v.category).sum ≤ 8) (hdg : decode cc pc = .ok (.invokevirtual index, 3)) (hcr : cells + 0 ≤ R.cells ∧ slots + 0 ≤ R.slots)
    (kk : ∀ (r : Int64) (t : gS × gS) (H1 : Heap) (locs1 : List Loc), post r t → gW g A ad np t.1 t.2 H1 → va_S A s.heap H1 locs1 → W p l e R s m args below meth c H1 locs1 cells slots Q (F0 m (pc + 3) ls (.long r :: rest))) : W p l e R s m args below meth c H locs cells slots Q (F0 m pc ls st0) := by
  subst hst
  exact va_calll (va_runV X.1 hM (gcwV X hw hR) ⟨gPc_blind, hv, gPc_at X.2 hW hS⟩ rfl hn hls rfl (lv_room hcat) hdg hcr) hS (fun _ _ h => h) (fun _ h => h) (fun r t t' H1 locs1 ht _ hp hB _ _ hS1 => kk r t H1 locs1 hp (by rw [← ht]; exact hB) hS1)
theorem gc_vV {post : gS × gS → Prop} (X : gcx g A p s m args c cc nL own) (hw : gwV own index y bytes maxL none n) (hM : CtV l y bytes maxL d (.ref b :: As) g A ad np u v post) (hW : gW g A ad np u v H) (hS : va_S A s.heap H locs) (hv : ∃ cell : Cell, H[b]? = some cell ∧ cell.vm.isStatics = false ∧ s.vm.findClass y.cls = some cell.cls) (hR : d + 1 ≤ R.frames ∧ 8 + (maxL + 11) + 40 * d ≤ R.locals) (hn : As.length = n) (hls : ls.size = nL) (hst : st0 = As.reverse ++ .ref b :: rest) (hcat : (rest.map fun v => v.category).sum ≤ 8) (hdg : decode cc pc = .ok (.invokevirtual index, 3)) (hcr : cells + 0 ≤ R.cells ∧ slots + 0 ≤ R.slots)
    (kk : ∀ (t : gS × gS) (H1 : Heap) (locs1 : List Loc), post t → gW g A ad np t.1 t.2 H1 → va_S A s.heap H1 locs1 → W p l e R s m args below meth c H1 locs1 cells slots Q (F0 m (pc + 3) ls rest)) : W p l e R s m args below meth c H locs cells slots Q (F0 m pc ls st0) := by
  subst hst
  exact va_callv (va_runV X.1 hM (gcwV X hw hR) ⟨gPc_blind, hv, gPc_at X.2 hW hS⟩ rfl hn hls rfl (lv_room hcat) hdg hcr) hS (fun _ _ h => h) (fun _ h => h) (fun t t' H1 locs1 ht _ hp hB _ _ hS1 => kk t H1 locs1 hp (by rw [← ht]; exact hB) hS1)
theorem gc_iS {post : Int32 → gS × gS → Prop} (X : gcx g A p s m args c cc nL own) (hw : gwS own index y bytes maxL (some rt) n) (hM : CtI l y bytes maxL rt d As g A ad np u v post) (hW : gW g A ad np u v H) (hS : va_S A s.heap H locs) (hR : d + 1 ≤ R.frames ∧ 8 + (maxL + 11) + 40 * d ≤ R.locals) (hn : As.length = n) (hls : ls.size = nL) (hst : st0 = As.reverse ++ rest) (hcat : (rest.map fun v => v.category).sum ≤ 8) (hdg : decode cc pc = .ok (.invokestatic index, 3)) (hcr : cells + 0 ≤ R.cells ∧ slots + 0 ≤ R.slots)
    (kk : ∀ (r : Int32) (t : gS × gS) (H1 : Heap) (locs1 : List Loc), post r t → gW g A ad np t.1 t.2 H1 → va_S A s.heap H1 locs1 → W p l e R s m args below meth c H1 locs1 cells slots Q (F0 m (pc + 3) ls (.int r :: rest))) : W p l e R s m args below meth c H locs cells slots Q (F0 m pc ls st0) := by
  subst hst
  exact va_calli (va_runS X.1 hM (gcwS X hw hR) ⟨gPc_blind, gPc_at X.2 hW hS⟩ rfl hn hls rfl (lv_room hcat) hdg hcr) hS (fun _ _ h => h) (fun _ h => h) (fun r t t' H1 locs1 ht _ hp hB _ _ hS1 => kk r t H1 locs1 hp (by rw [← ht]; exact hB) hS1)
theorem gc_iSN {post : Int32 → gS × gS → Prop} (X : gcx g A p s m args c cc nL own) (hw : gwSN own index y host bytes maxL (some rt) n) (hM : CtI l y bytes maxL rt d As g A ad np u v post) (hW : gW g A ad np u v H) (hS : va_S A s.heap H locs) (hR : d + 1 ≤ R.frames ∧ 8 + (maxL + 11) + 40 * d ≤ R.locals) (hn : As.length = n) (hls : ls.size = nL) (hst : st0 = As.reverse ++ rest) (hcat : (rest.map fun v => v.category).sum ≤ 8) (hdg : decode cc pc = .ok (.invokestatic index, 3)) (hcr : cells + 0 ≤ R.cells ∧ slots + 0 ≤ R.slots)
    (kk : ∀ (r : Int32) (t : gS × gS) (H1 : Heap) (locs1 : List Loc), post r t → gW g A ad np t.1 t.2 H1 → va_S A s.heap H1 locs1 → W p l e R s m args below meth c H1 locs1 cells slots Q (F0 m (pc + 3) ls (.int r :: rest))) : W p l e R s m args below meth c H locs cells slots Q (F0 m pc ls st0) := by
  subst hst
  have hts := X.1.2.2.2.2
  obtain ⟨h1, h2, h4, h5, h6⟩ := hw
  exact va_calli (va_runSN X.1 hM ⟨va_cnB n hts (gWG_cons h5) rfl rfl rfl (X.2.2.2.1 _ h1) (hts _ h4) h6 hR, hts _ h2, trivial⟩ ⟨gPc_blind, gPc_at X.2 hW hS⟩ rfl hn hls rfl (lv_room hcat) hdg hcr) hS (fun _ _ h => h) (fun _ h => h) (fun r t t' H1 locs1 ht _ hp hB _ _ hS1 => kk r t H1 locs1 hp (by rw [← ht]; exact hB) hS1)
end GCL
