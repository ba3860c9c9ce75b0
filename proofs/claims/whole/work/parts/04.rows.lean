/-! Rows over the world: reading and writing fields and arrays by cell numbers. -/
section GRW
variable {p : Program} {l : Launch} {e : Env} {R : Room} {s : State} {m : MethodId} {args : Array Value} {below : List Frame} {meth : Method} {c : Code} {H : Heap} {locs : List Loc} {cells slots : Nat} {Q : State → Prop}
variable {cc : ByteArray} {pc : Nat} {ls : Array Slot} {rest : List Value} {g : gG} {A : Nat → Prop} {ad : Nat → Nat} {np : Nat} {u v : gS} {H0 : Heap} {Ts : List Cond} {own ref C host : String} {T : u_T} {N ci index k j : Nat} {fs : (Nat → Int32) → List Value} {q : Nat × Nat × Nat} {z : Int32}
theorem gy_gi (hexec : p.tables.exec = Jvm.exec) (hb : c.code = cc) (hts : ∀ w ∈ Ts, w.before args s = true) (hin : ∀ w ∈ u_ws C T N, w ∈ Ts) (hown : s.vm.findClass own = some m.cls) (hK : va_K g.1 gcl (gty g) s) (hc : gcl[ci]? = some (C, T, N)) (hj : j < N) (hlink : (Cond.fieldLink own index ref (T j).2.1 (T j).2.2.1).before args s = true) (hsame : ∀ x, s.fieldFound? (T j).1 (T j).2.1 (T j).2.2.1 = some x → s.fieldFound? ref (T j).2.1 (T j).2.2.1 = some x) (hfj : ∀ r, (fs r)[j]? = some (.int (r j)))
    (hW : gW g A ad np u v H) (hk : k < 94 + 5 * np) (hce : ∀ σ τ, ge g ad np σ τ k = .inr (ci, fs (σ k))) (hq : gv np q) (hg : gi q = (k, j)) (hz : gr u v q = z) (hdg : decode cc pc = .ok (.getfield index, 3))
    (kk : W p l e R s m args below meth c H locs cells slots Q (F0 m (pc + 3) ls (.int z :: rest))) : W p l e R s m args below meth c H locs cells slots Q (F0 m pc ls (.ref (ad k) :: rest)) := by
  obtain ⟨σ, τ, hP, hD, hr, hl1, hl2⟩ := hW
  have hz2 : σ k j = z := by rw [← hz, ← hr q hq, hg]
  exact va_get (v := .int z) hexec hb hts hin hown hK hP k ((gw_at hk).trans (by rw [hce])) hc j hj hlink hsame (by rw [hfj, hz2]) hdg kk
theorem gy_giN (hexec : p.tables.exec = Jvm.exec) (hb : c.code = cc) (hts : ∀ w ∈ Ts, w.before args s = true) (hin : ∀ w ∈ u_ws C T N, w ∈ Ts) (hown : s.vm.findClass own = some m.cls) (hK : va_K g.1 gcl (gty g) s) (hc : gcl[ci]? = some (C, T, N)) (hj : j < N) (hlink : (Cond.fieldLinkNest own index ref (T j).2.1 (T j).2.2.1 host).before args s = true) (hsame : ∀ x, s.fieldFound? (T j).1 (T j).2.1 (T j).2.2.1 = some x → s.fieldFound? ref (T j).2.1 (T j).2.2.1 = some x) (hfj : ∀ r, (fs r)[j]? = some (.int (r j)))
    (hW : gW g A ad np u v H) (hk : k < 94 + 5 * np) (hce : ∀ σ τ, ge g ad np σ τ k = .inr (ci, fs (σ k))) (hq : gv np q) (hg : gi q = (k, j)) (hz : gr u v q = z) (hdg : decode cc pc = .ok (.getfield index, 3))
    (kk : W p l e R s m args below meth c H locs cells slots Q (F0 m (pc + 3) ls (.int z :: rest))) : W p l e R s m args below meth c H locs cells slots Q (F0 m pc ls (.ref (ad k) :: rest)) := by
  obtain ⟨σ, τ, hP, hD, hr, hl1, hl2⟩ := hW
  have hz2 : σ k j = z := by rw [← hz, ← hr q hq, hg]
  exact va_getN (v := .int z) hexec hb hts hin hown hK hP k ((gw_at hk).trans (by rw [hce])) hc j hj hlink hsame (by rw [hfj, hz2]) hdg kk
/-- a field that holds a cell of the picture (or an enum's constant, by its place) -/
theorem gy_gr {t : Nat} (hexec : p.tables.exec = Jvm.exec) (hb : c.code = cc) (hts : ∀ w ∈ Ts, w.before args s = true) (hin : ∀ w ∈ u_ws C T N, w ∈ Ts) (hown : s.vm.findClass own = some m.cls) (hK : va_K g.1 gcl (gty g) s) (hc : gcl[ci]? = some (C, T, N)) (hj : j < N) (hlink : (Cond.fieldLink own index ref (T j).2.1 (T j).2.2.1).before args s = true) (hsame : ∀ x, s.fieldFound? (T j).1 (T j).2.1 (T j).2.2.1 = some x → s.fieldFound? ref (T j).2.1 (T j).2.2.1 = some x) (hfj : ∀ r, (fs r)[j]? = some (.ref (ad t)))
    (hW : gW g A ad np u v H) (hk : k < 94 + 5 * np) (hce : ∀ σ τ, ge g ad np σ τ k = .inr (ci, fs (σ k))) (hdg : decode cc pc = .ok (.getfield index, 3))
    (kk : W p l e R s m args below meth c H locs cells slots Q (F0 m (pc + 3) ls (.ref (ad t) :: rest))) : W p l e R s m args below meth c H locs cells slots Q (F0 m pc ls (.ref (ad k) :: rest)) := by
  obtain ⟨σ, τ, hP, hD, hr, hl1, hl2⟩ := hW
  exact va_get (v := .ref (ad t)) hexec hb hts hin hown hK hP k ((gw_at hk).trans (by rw [hce])) hc j hj hlink hsame (hfj _) hdg kk
theorem gy_grN {t : Nat} (hexec : p.tables.exec = Jvm.exec) (hb : c.code = cc) (hts : ∀ w ∈ Ts, w.before args s = true) (hin : ∀ w ∈ u_ws C T N, w ∈ Ts) (hown : s.vm.findClass own = some m.cls) (hK : va_K g.1 gcl (gty g) s) (hc : gcl[ci]? = some (C, T, N)) (hj : j < N) (hlink : (Cond.fieldLinkNest own index ref (T j).2.1 (T j).2.2.1 host).before args s = true) (hsame : ∀ x, s.fieldFound? (T j).1 (T j).2.1 (T j).2.2.1 = some x → s.fieldFound? ref (T j).2.1 (T j).2.2.1 = some x) (hfj : ∀ r, (fs r)[j]? = some (.ref (ad t)))
    (hW : gW g A ad np u v H) (hk : k < 94 + 5 * np) (hce : ∀ σ τ, ge g ad np σ τ k = .inr (ci, fs (σ k))) (hdg : decode cc pc = .ok (.getfield index, 3))
    (kk : W p l e R s m args below meth c H locs cells slots Q (F0 m (pc + 3) ls (.ref (ad t) :: rest))) : W p l e R s m args below meth c H locs cells slots Q (F0 m pc ls (.ref (ad k) :: rest)) := by
  obtain ⟨σ, τ, hP, hD, hr, hl1, hl2⟩ := hW
  exact va_getN (v := .ref (ad t)) hexec hb hts hin hown hK hP k ((gw_at hk).trans (by rw [hce])) hc j hj hlink hsame (hfj _) hdg kk
/-- a page's reply -/
theorem gy_geN (hexec : p.tables.exec = Jvm.exec) (hb : c.code = cc) (hts : ∀ w ∈ Ts, w.before args s = true) (hin : ∀ w ∈ u_ws C T N, w ∈ Ts) (hown : s.vm.findClass own = some m.cls) (hK : va_K g.1 gcl (gty g) s) (hc : gcl[ci]? = some (C, T, N)) (hj : j < N) (hlink : (Cond.fieldLinkNest own index ref (T j).2.1 (T j).2.2.1 host).before args s = true) (hsame : ∀ x, s.fieldFound? (T j).1 (T j).2.1 (T j).2.2.1 = some x → s.fieldFound? ref (T j).2.1 (T j).2.2.1 = some x) (hfj : ∀ r, (fs r)[j]? = some (.ref (g.2.2 (r j).toNatClampNeg)))
    (hW : gW g A ad np u v H) (hk : k < 94 + 5 * np) (hce : ∀ σ τ, ge g ad np σ τ k = .inr (ci, fs (σ k))) (hq : gv np q) (hg : gi q = (k, j)) (hz : gr u v q = z) (hdg : decode cc pc = .ok (.getfield index, 3))
    (kk : W p l e R s m args below meth c H locs cells slots Q (F0 m (pc + 3) ls (.ref (g.2.2 z.toNatClampNeg) :: rest))) : W p l e R s m args below meth c H locs cells slots Q (F0 m pc ls (.ref (ad k) :: rest)) := by
  obtain ⟨σ, τ, hP, hD, hr, hl1, hl2⟩ := hW
  have hz2 : σ k j = z := by rw [← hz, ← hr q hq, hg]
  exact va_getN (v := .ref (g.2.2 z.toNatClampNeg)) hexec hb hts hin hown hK hP k ((gw_at hk).trans (by rw [hce])) hc j hj hlink hsame (by rw [hfj, hz2]) hdg kk
theorem gy_pi {ty : FieldType} (hexec : p.tables.exec = Jvm.exec) (hb : c.code = cc) (hts : ∀ w ∈ Ts, w.before args s = true) (hin : ∀ w ∈ u_ws C T N, w ∈ Ts) (ty0 : Nat → FieldType) (hty : ∀ k, k < N → parseFieldDescriptor (T k).2.2.1 = some (ty0 k)) (hnm : ∀ a, a < N → ∀ b, b < N → a ≠ b → (T a).2.1 ≠ (T b).2.1) (hown : s.vm.findClass own = some m.cls) (hK : va_K g.1 gcl (gty g) s) (hc : gcl[ci]? = some (C, T, N)) (hj : j < N) (hlink : (Cond.fieldLink own index ref (T j).2.1 (T j).2.2.1).before args s = true) (hsame : ∀ x, s.fieldFound? (T j).1 (T j).2.1 (T j).2.2.1 = some x → s.fieldFound? ref (T j).2.1 (T j).2.2.1 = some x) (hfin : (T j).2.2.2 = false) (hd : parseFieldDescriptor (T j).2.2.1 = some ty) (hl : ∀ r, j < (fs r).length) (hfs : ∀ r x, fs (upd r j x) = (fs r).set j (.int x))
    (hW : gW g A ad np u v H) (hS : va_S A H0 H locs) (hk : k < 94 + 5 * np) (hce : ∀ σ τ, ge g ad np σ τ k = .inr (ci, fs (σ k))) (hq : gv np q) (hg : gi q = (k, j)) (hn : narrow ty (.int z) = .int z) (hfit : fits ty (.int z) = true) (hdg : decode cc pc = .ok (.putfield index, 3))
    (kk : ∀ (H1 : Heap) (locs1 : List Loc), gW g A ad np (gx u v q z).1 (gx u v q z).2 H1 → va_S A H0 H1 locs1 → W p l e R s m args below meth c H1 locs1 cells slots Q (F0 m (pc + 3) ls rest)) : W p l e R s m args below meth c H locs cells slots Q (F0 m pc ls (.int z :: .ref (ad k) :: rest)) := by
  obtain ⟨σ, τ, hP, hD, hr, hl1, hl2⟩ := hW
  refine va_put (v := .int z) (fs := fs (σ k)) hexec hb hts hin ty0 hty hnm hown hK hP hD hS k ((gw_at hk).trans (by rw [hce])) hc j hj hlink hsame hfin hd hn hfit (hl _) hdg (fun H1 locs1 hP1 hD1 hS1 => ?_)
  exact kk H1 locs1 (gW_wr hq hg hr hl1 hl2 (by rw [hce, gu_self, hfs]) hP1 hD1) hS1
theorem gy_piN {ty : FieldType} (hexec : p.tables.exec = Jvm.exec) (hb : c.code = cc) (hts : ∀ w ∈ Ts, w.before args s = true) (hin : ∀ w ∈ u_ws C T N, w ∈ Ts) (ty0 : Nat → FieldType) (hty : ∀ k, k < N → parseFieldDescriptor (T k).2.2.1 = some (ty0 k)) (hnm : ∀ a, a < N → ∀ b, b < N → a ≠ b → (T a).2.1 ≠ (T b).2.1) (hown : s.vm.findClass own = some m.cls) (hK : va_K g.1 gcl (gty g) s) (hc : gcl[ci]? = some (C, T, N)) (hj : j < N) (hlink : (Cond.fieldLinkNest own index ref (T j).2.1 (T j).2.2.1 host).before args s = true) (hsame : ∀ x, s.fieldFound? (T j).1 (T j).2.1 (T j).2.2.1 = some x → s.fieldFound? ref (T j).2.1 (T j).2.2.1 = some x) (hfin : (T j).2.2.2 = false) (hd : parseFieldDescriptor (T j).2.2.1 = some ty) (hl : ∀ r, j < (fs r).length) (hfs : ∀ r x, fs (upd r j x) = (fs r).set j (.int x))
    (hW : gW g A ad np u v H) (hS : va_S A H0 H locs) (hk : k < 94 + 5 * np) (hce : ∀ σ τ, ge g ad np σ τ k = .inr (ci, fs (σ k))) (hq : gv np q) (hg : gi q = (k, j)) (hn : narrow ty (.int z) = .int z) (hfit : fits ty (.int z) = true) (hdg : decode cc pc = .ok (.putfield index, 3))
    (kk : ∀ (H1 : Heap) (locs1 : List Loc), gW g A ad np (gx u v q z).1 (gx u v q z).2 H1 → va_S A H0 H1 locs1 → W p l e R s m args below meth c H1 locs1 cells slots Q (F0 m (pc + 3) ls rest)) : W p l e R s m args below meth c H locs cells slots Q (F0 m pc ls (.int z :: .ref (ad k) :: rest)) := by
  obtain ⟨σ, τ, hP, hD, hr, hl1, hl2⟩ := hW
  refine va_putN (v := .int z) (fs := fs (σ k)) hexec hb hts hin ty0 hty hnm hown hK hP hD hS k ((gw_at hk).trans (by rw [hce])) hc j hj hlink hsame hfin hd hn hfit (hl _) hdg (fun H1 locs1 hP1 hD1 hS1 => ?_)
  exact kk H1 locs1 (gW_wr hq hg hr hl1 hl2 (by rw [hce, gu_self, hfs]) hP1 hD1) hS1
/-- a page's reply is set -/
theorem gy_peN {ty : FieldType} (hexec : p.tables.exec = Jvm.exec) (hb : c.code = cc) (hts : ∀ w ∈ Ts, w.before args s = true) (hin : ∀ w ∈ u_ws C T N, w ∈ Ts) (ty0 : Nat → FieldType) (hty : ∀ k, k < N → parseFieldDescriptor (T k).2.2.1 = some (ty0 k)) (hnm : ∀ a, a < N → ∀ b, b < N → a ≠ b → (T a).2.1 ≠ (T b).2.1) (hown : s.vm.findClass own = some m.cls) (hK : va_K g.1 gcl (gty g) s) (hc : gcl[ci]? = some (C, T, N)) (hj : j < N) (hlink : (Cond.fieldLinkNest own index ref (T j).2.1 (T j).2.2.1 host).before args s = true) (hsame : ∀ x, s.fieldFound? (T j).1 (T j).2.1 (T j).2.2.1 = some x → s.fieldFound? ref (T j).2.1 (T j).2.2.1 = some x) (hfin : (T j).2.2.2 = false) (hd : parseFieldDescriptor (T j).2.2.1 = some ty) (hl : ∀ r, j < (fs r).length) (hfs : ∀ r x, fs (upd r j x) = (fs r).set j (.ref (g.2.2 x.toNatClampNeg)))
    (hW : gW g A ad np u v H) (hS : va_S A H0 H locs) (hk : k < 94 + 5 * np) (hce : ∀ σ τ, ge g ad np σ τ k = .inr (ci, fs (σ k))) (hq : gv np q) (hg : gi q = (k, j)) {w : Nat} (hw : z.toNatClampNeg = w) (hn : narrow ty (.ref (g.2.2 w)) = .ref (g.2.2 w)) (hfit : fits ty (.ref (g.2.2 w)) = true) (hdg : decode cc pc = .ok (.putfield index, 3))
    (kk : ∀ (H1 : Heap) (locs1 : List Loc), gW g A ad np (gx u v q z).1 (gx u v q z).2 H1 → va_S A H0 H1 locs1 → W p l e R s m args below meth c H1 locs1 cells slots Q (F0 m (pc + 3) ls rest)) : W p l e R s m args below meth c H locs cells slots Q (F0 m pc ls (.ref (g.2.2 w) :: .ref (ad k) :: rest)) := by
  obtain ⟨σ, τ, hP, hD, hr, hl1, hl2⟩ := hW
  subst hw
  refine va_putN (v := .ref (g.2.2 z.toNatClampNeg)) (fs := fs (σ k)) hexec hb hts hin ty0 hty hnm hown hK hP hD hS k ((gw_at hk).trans (by rw [hce])) hc j hj hlink hsame hfin hd hn hfit (hl _) hdg (fun H1 locs1 hP1 hD1 hS1 => ?_)
  exact kk H1 locs1 (gW_wr hq hg hr hl1 hl2 (by rw [hce, gu_self, hfs]) hP1 hD1) hS1
-- arrays
theorem gy_ia (hexec : p.tables.exec = Jvm.exec) (hb : c.code = cc) (hK : va_K g.1 gcl (gty g) s) (hW : gW g A ad np u v H) (hk : k < 94 + 5 * np) (h8 : gk k = 8) {i : Int32} (hin : vp_in i (gn k)) (hq : gv np q) (hg : gi q = (k, i.toNatClampNeg)) (hz : gr u v q = z) (hdg : decode cc pc = .ok (.iaload, 1))
    (kk : W p l e R s m args below meth c H locs cells slots Q (F0 m (pc + 1) ls (.int z :: rest))) : W p l e R s m args below meth c H locs cells slots Q (F0 m pc ls (.int i :: .ref (ad k) :: rest)) := by
  obtain ⟨σ, τ, hP, hD, hr, hl1, hl2⟩ := hW
  have hz2 : σ k i.toNatClampNeg = z := by rw [← hz, ← hr q hq, hg]
  refine va_iald hexec hb hK hP k 0 ((gw_at hk).trans (by rw [ge_8 h8])) rfl hin hdg ?_
  rw [hz2]
  exact kk
theorem gy_is (hexec : p.tables.exec = Jvm.exec) (hb : c.code = cc) (hK : va_K g.1 gcl (gty g) s) (hW : gW g A ad np u v H) (hS : va_S A H0 H locs) (hk : k < 94 + 5 * np) (h8 : gk k = 8) {i : Int32} (hin : vp_in i (gn k)) (hq : gv np q) (hg : gi q = (k, i.toNatClampNeg)) (hdg : decode cc pc = .ok (.iastore, 1))
    (kk : ∀ (H1 : Heap) (locs1 : List Loc), gW g A ad np (gx u v q z).1 (gx u v q z).2 H1 → va_S A H0 H1 locs1 → W p l e R s m args below meth c H1 locs1 cells slots Q (F0 m (pc + 1) ls rest)) : W p l e R s m args below meth c H locs cells slots Q (F0 m pc ls (.int z :: .int i :: .ref (ad k) :: rest)) := by
  obtain ⟨σ, τ, hP, hD, hr, hl1, hl2⟩ := hW
  refine va_iast hexec hb hK hP hD hS k 0 ((gw_at hk).trans (by rw [ge_8 h8])) rfl hin hdg (fun H1 locs1 hP1 hD1 hS1 => ?_)
  exact kk H1 locs1 (gW_wr hq hg hr hl1 hl2 (by rw [ge_8 h8, gu_self]) hP1 hD1) hS1
theorem gy_za (hexec : p.tables.exec = Jvm.exec) (hb : c.code = cc) (hK : va_K g.1 gcl (gty g) s) (hW : gW g A ad np u v H) (hk : k < 94 + 5 * np) (h8 : gk k = 9) {i : Int32} (hin : vp_in i (gn k)) (hq : gv np q) (hg : gi q = (k, i.toNatClampNeg)) (hz : gr u v q = z) (hdg : decode cc pc = .ok (.baload, 1))
    (kk : W p l e R s m args below meth c H locs cells slots Q (F0 m (pc + 1) ls (.int z :: rest))) : W p l e R s m args below meth c H locs cells slots Q (F0 m pc ls (.int i :: .ref (ad k) :: rest)) := by
  obtain ⟨σ, τ, hP, hD, hr, hl1, hl2⟩ := hW
  have hz2 : σ k i.toNatClampNeg = z := by rw [← hz, ← hr q hq, hg]
  refine va_zald hexec hb hK hP k 1 ((gw_at hk).trans (by rw [ge_9 h8])) rfl hin hdg ?_
  rw [hz2]
  exact kk
theorem gy_zs (hexec : p.tables.exec = Jvm.exec) (hb : c.code = cc) (hK : va_K g.1 gcl (gty g) s) (hW : gW g A ad np u v H) (hS : va_S A H0 H locs) (hk : k < 94 + 5 * np) (h8 : gk k = 9) {i : Int32} (hin : vp_in i (gn k)) (hnz : vp_nar .boolean z = z) (hq : gv np q) (hg : gi q = (k, i.toNatClampNeg)) (hdg : decode cc pc = .ok (.bastore, 1))
    (kk : ∀ (H1 : Heap) (locs1 : List Loc), gW g A ad np (gx u v q z).1 (gx u v q z).2 H1 → va_S A H0 H1 locs1 → W p l e R s m args below meth c H1 locs1 cells slots Q (F0 m (pc + 1) ls rest)) : W p l e R s m args below meth c H locs cells slots Q (F0 m pc ls (.int z :: .int i :: .ref (ad k) :: rest)) := by
  obtain ⟨σ, τ, hP, hD, hr, hl1, hl2⟩ := hW
  refine va_zast hexec hb hK hP hD hS k 1 ((gw_at hk).trans (by rw [ge_9 h8])) rfl hin hdg (fun H1 locs1 hP1 hD1 hS1 => ?_)
  rw [hnz] at hP1 hD1
  exact kk H1 locs1 (gW_wr hq hg hr hl1 hl2 (by rw [ge_9 h8, gu_self]) hP1 hD1) hS1
theorem gy_la {w : Int64} (hexec : p.tables.exec = Jvm.exec) (hb : c.code = cc) (hK : va_K g.1 gcl (gty g) s) (hW : gW g A ad np u v H) (hk : k < 3) {i : Int32} (hin : vp_in i 32) (hz : u.2.2 k i.toNatClampNeg = w) (hdg : decode cc pc = .ok (.laload, 1))
    (kk : W p l e R s m args below meth c H locs cells slots Q (F0 m (pc + 1) ls (.long w :: rest))) : W p l e R s m args below meth c H locs cells slots Q (F0 m pc ls (.int i :: .ref (ad (71 + k)) :: rest)) := by
  obtain ⟨σ, τ, hP, hD, hr, hl1, hl2⟩ := hW
  have hk9 : gk (71 + k) = 10 ∧ gn (71 + k) = 32 := (show ∀ k : Fin 3, gk (71 + k.val) = 10 ∧ gn (71 + k.val) = 32 by decide) ⟨k, hk⟩
  have hz2 : τ (71 + k) i.toNatClampNeg = w := by rw [← hz, hl1 k hk]
  refine va_lald hexec hb hK hP (71 + k) 2 ((gw_at (by omega)).trans (by rw [ge_10 hk9.1])) rfl (by rw [hk9.2]; exact hin) hdg ?_
  rw [hz2]
  exact kk
theorem gy_lsC {w : Int64} (hexec : p.tables.exec = Jvm.exec) (hb : c.code = cc) (hK : va_K g.1 gcl (gty g) s) (hW : gW g A ad np u v H) (hS : va_S A H0 H locs) (hk : k < 3) {i : Int32} (hin : vp_in i 32) (hdg : decode cc pc = .ok (.lastore, 1))
    (kk : ∀ (H1 : Heap) (locs1 : List Loc), gW g A ad np (u.1, u.2.1, guL u.2.2 k i.toNatClampNeg w) v H1 → va_S A H0 H1 locs1 → W p l e R s m args below meth c H1 locs1 cells slots Q (F0 m (pc + 1) ls rest)) : W p l e R s m args below meth c H locs cells slots Q (F0 m pc ls (.long w :: .int i :: .ref (ad (71 + k)) :: rest)) := by
  obtain ⟨σ, τ, hP, hD, hr, hl1, hl2⟩ := hW
  have hk9 : gk (71 + k) = 10 ∧ gn (71 + k) = 32 := (show ∀ k : Fin 3, gk (71 + k.val) = 10 ∧ gn (71 + k.val) = 32 by decide) ⟨k, hk⟩
  refine va_last hexec hb hK hP hD hS (71 + k) 2 ((gw_at (by omega)).trans (by rw [ge_10 hk9.1])) rfl (by rw [hk9.2]; exact hin) hdg (fun H1 locs1 hP1 hD1 hS1 => ?_)
  exact kk H1 locs1 (gW_wrL hk hr hl1 hl2 (by rw [ge_10 hk9.1, guL_self]) hP1 hD1) hS1
theorem gy_laM {w : Int64} (hexec : p.tables.exec = Jvm.exec) (hb : c.code = cc) (hK : va_K g.1 gcl (gty g) s) (hW : gW g A ad np u v H) (hk : k < 2) {i : Int32} (hin : vp_in i 32) (hz : v.2.2 k i.toNatClampNeg = w) (hdg : decode cc pc = .ok (.laload, 1))
    (kk : W p l e R s m args below meth c H locs cells slots Q (F0 m (pc + 1) ls (.long w :: rest))) : W p l e R s m args below meth c H locs cells slots Q (F0 m pc ls (.int i :: .ref (ad (92 + k)) :: rest)) := by
  obtain ⟨σ, τ, hP, hD, hr, hl1, hl2⟩ := hW
  have hk9 : gk (92 + k) = 10 ∧ gn (92 + k) = 32 := (show ∀ k : Fin 2, gk (92 + k.val) = 10 ∧ gn (92 + k.val) = 32 by decide) ⟨k, hk⟩
  have hz2 : τ (92 + k) i.toNatClampNeg = w := by rw [← hz, hl2 k hk]
  refine va_lald hexec hb hK hP (92 + k) 2 ((gw_at (by omega)).trans (by rw [ge_10 hk9.1])) rfl (by rw [hk9.2]; exact hin) hdg ?_
  rw [hz2]
  exact kk
theorem gy_lsM {w : Int64} (hexec : p.tables.exec = Jvm.exec) (hb : c.code = cc) (hK : va_K g.1 gcl (gty g) s) (hW : gW g A ad np u v H) (hS : va_S A H0 H locs) (hk : k < 2) {i : Int32} (hin : vp_in i 32) (hdg : decode cc pc = .ok (.lastore, 1))
    (kk : ∀ (H1 : Heap) (locs1 : List Loc), gW g A ad np u (v.1, v.2.1, guL v.2.2 k i.toNatClampNeg w) H1 → va_S A H0 H1 locs1 → W p l e R s m args below meth c H1 locs1 cells slots Q (F0 m (pc + 1) ls rest)) : W p l e R s m args below meth c H locs cells slots Q (F0 m pc ls (.long w :: .int i :: .ref (ad (92 + k)) :: rest)) := by
  obtain ⟨σ, τ, hP, hD, hr, hl1, hl2⟩ := hW
  have hk9 : gk (92 + k) = 10 ∧ gn (92 + k) = 32 := (show ∀ k : Fin 2, gk (92 + k.val) = 10 ∧ gn (92 + k.val) = 32 by decide) ⟨k, hk⟩
  refine va_last hexec hb hK hP hD hS (92 + k) 2 ((gw_at (by omega)).trans (by rw [ge_10 hk9.1])) rfl (by rw [hk9.2]; exact hin) hdg (fun H1 locs1 hP1 hD1 hS1 => ?_)
  exact kk H1 locs1 (gW_wrM hk hr hl1 hl2 (by rw [ge_10 hk9.1, guL_self]) hP1 hD1) hS1
theorem gy_aP (hexec : p.tables.exec = Jvm.exec) (hb : c.code = cc) (hK : va_K g.1 gcl (gty g) s) (hW : gW g A ad np u v H) {i : Nat} (hi : i < np) (hnp : np ≤ 32) {x : Int32} (hx : x = nI i) (hdg : decode cc pc = .ok (.aaload, 1))
    (kk : W p l e R s m args below meth c H locs cells slots Q (F0 m (pc + 1) ls (.ref (ad (gp i)) :: rest))) : W p l e R s m args below meth c H locs cells slots Q (F0 m pc ls (.int x :: .ref (ad 2) :: rest)) := by
  obtain ⟨σ, τ, hP, hD, hr, hl1, hl2⟩ := hW
  subst hx
  refine va_aldq hexec hb hK hP 2 3 (gw_at (by omega)) rfl (vp_in_nI (by omega) (by omega)) hdg ?_
  rw [nI_clamp (by omega), if_pos hi]
  exact kk
theorem gy_aH (hexec : p.tables.exec = Jvm.exec) (hb : c.code = cc) (hK : va_K g.1 gcl (gty g) s) (hW : gW g A ad np u v H) {i : Nat} (hi : i < 6) {x : Int32} (hx : x = nI i) (hdg : decode cc pc = .ok (.aaload, 1))
    (kk : W p l e R s m args below meth c H locs cells slots Q (F0 m (pc + 1) ls (.ref (ad (4 + 3 * i)) :: rest))) : W p l e R s m args below meth c H locs cells slots Q (F0 m pc ls (.int x :: .ref (ad 3) :: rest)) := by
  obtain ⟨σ, τ, hP, hD, hr, hl1, hl2⟩ := hW
  subst hx
  refine va_aldq hexec hb hK hP 3 4 (gw_at (by omega)) rfl (vp_in_nI hi (by omega)) hdg ?_
  rw [nI_clamp (by omega)]
  exact kk
theorem gy_aldA {D : va_G} {cl : List vw_C} {tys : List (ClassId × FieldType)} {ws : va_W} {a : Nat} (hexec : p.tables.exec = Jvm.exec) (hb : c.code = cc) (hK : va_K D cl tys s) (hP : va_P D cl ws H) (q0 t0 : Nat) {cA : ClassId} {t : FieldType} {n : Nat} {f : Nat → Option Nat} (ha : ws[q0]? = some (a, .inl (cA, n, .inr (.inr (.inr (.inr f)))))) (ht : tys[t0]? = some (cA, .array t)) {i : Int32} (hin : vp_in i n) (hdg : decode cc pc = .ok (.aaload, 1))
    (kk : W p l e R s m args below meth c H locs cells slots Q (F0 m (pc + 1) ls (va_rf (f i.toNatClampNeg) :: rest))) : W p l e R s m args below meth c H locs cells slots Q (F0 m pc ls (.int i :: .ref a :: rest)) := by
  have hlt : i.toNatClampNeg < n := Nat.not_le.mp fun q => hin (Or.inr q)
  exact W.aald (v := va_rf (f i.toNatClampNeg)) (ty := .array t) hexec hb (hP q0 _ ha) ((hK.2 t0 _ ht).1 n (fun j => va_rf (f j))) rfl (fun q => by cases q) (by show ¬ (i < 0 ∨ (arrV _ _ _).slots.size ≤ _); rw [arrV_size]; exact hin) (by show (arrV _ _ _).slots[_]? = _; rw [arrV_read _ _ hlt]) rfl rfl hdg kk
theorem gy_aL (hexec : p.tables.exec = Jvm.exec) (hb : c.code = cc) (hK : va_K g.1 gcl (gty g) s) (hW : gW g A ad np u v H) {i : Nat} (hi : i < 32) {x : Int32} (hx : x = nI i) (hdg : decode cc pc = .ok (.aaload, 1))
    (kk : W p l e R s m args below meth c H locs cells slots Q (F0 m (pc + 1) ls (.ref (ad (38 + i)) :: rest))) : W p l e R s m args below meth c H locs cells slots Q (F0 m pc ls (.int x :: .ref (ad 37) :: rest)) := by
  obtain ⟨σ, τ, hP, hD, hr, hl1, hl2⟩ := hW
  subst hx
  refine gy_aldA (t := .int) hexec hb hK hP 37 5 (gw_at (by omega)) rfl (vp_in_nI hi (by omega)) hdg ?_
  rw [nI_clamp (by omega)]
  exact kk
theorem gy_al (hexec : p.tables.exec = Jvm.exec) (hb : c.code = cc) (hK : va_K g.1 gcl (gty g) s) (hW : gW g A ad np u v H) (hk : k < 94 + 5 * np) (h8 : gk k = 8) {n : Nat} (hn : gn k = n) (hdg : decode cc pc = .ok (.arraylength, 1))
    (kk : W p l e R s m args below meth c H locs cells slots Q (F0 m (pc + 1) ls (.int (nI n) :: rest))) : W p l e R s m args below meth c H locs cells slots Q (F0 m pc ls (.ref (ad k) :: rest)) := by
  obtain ⟨σ, τ, hP, hD, hr, hl1, hl2⟩ := hW
  exact va_alen hexec hb hK hP k 0 ((gw_at hk).trans (by rw [ge_8 h8])) (ty := .int) rfl (by rw [hn]; rfl) hdg kk
theorem gW_recv (hK : va_K g.1 gcl (gty g) s) (hW : gW g A ad np u v H) (hk : k < 94 + 5 * np) (hce : ∀ σ τ, ge g ad np σ τ k = .inr (ci, fs (σ k))) {r : vw_C} (hc : gcl[ci]? = some r) : ∃ cell : Cell, H[ad k]? = some cell ∧ cell.vm.isStatics = false ∧ s.vm.findClass r.1 = some cell.cls := by
  obtain ⟨σ, τ, hP, hD, hr, hl1, hl2⟩ := hW
  exact va_recv hK hP hc ((gw_at hk).trans (by rw [hce]))
end GRW
