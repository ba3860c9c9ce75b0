/-! What holds between the calls, and that each call keeps it. -/
def gI (np : Nat) (a x : gA) : Prop := WFw np a ∧ WFg np a ∧ WX np a x
theorem WFw_ro {np : Nat} {a a' : gA} (hr : ∀ r, 1 ≤ r → r ≤ 11 → a' r = a r) (h0 : a' 0 0 = a 0 0) (h12 : a' 0 12 = a 0 12) (h13 : a' 0 13 = 0 ∨ a' 0 13 = 1) (hw : WFw np a) : WFw np a' := by
  obtain ⟨c1, c2, c3, c4, c5, c6, c7, c8, c9, -⟩ := hw
  unfold WFw
  rw [hr 1 (by decide) (by decide), hr 2 (by decide) (by decide), hr 3 (by decide) (by decide), hr 4 (by decide) (by decide), hr 5 (by decide) (by decide), hr 6 (by decide) (by decide), hr 7 (by decide) (by decide), hr 8 (by decide) (by decide), hr 9 (by decide) (by decide), hr 10 (by decide) (by decide), hr 11 (by decide) (by decide), h0, h12]
  exact ⟨c1, c2, c3, c4, c5, c6, c7, c8, c9, h13⟩
theorem WFg_eq {np np' : Nat} {a a' : gA} (hn : np ≤ np') (h0 : ∀ j, 15 ≤ j → a' 0 j = a 0 j) (h12 : a' 12 = a 12) (h14 : a' 14 = a 14) (h15 : a' 15 = a 15) (hg : WFg np a) : WFg np' a' := by
  obtain ⟨hd, nq, nf, ng, mh, mq, mf, mg, hp, e1, e2, e3, e4, e5, e6, e7, e8, e9, e10, l1, l2, l3, l4, l5, l6, l7, d1, d2, d3⟩ := hg
  refine ⟨hd, nq, nf, ng, mh, mq, mf, mg, hp, (h0 20 (by decide)).trans e1, (h0 21 (by decide)).trans e2, (h0 23 (by decide)).trans e3, (h0 25 (by decide)).trans e4, (h0 29 (by decide)).trans e5, (h0 30 (by decide)).trans e6, (h0 31 (by decide)).trans e7, (h0 32 (by decide)).trans e8, (h0 33 (by decide)).trans e9, (h0 15 (by decide)).trans e10, l1, l2, l3, l4, l5, l6, l7, ?_, ?_, ?_⟩
  · rw [h12]; exact dst_mono d1 hn
  · rw [h14]; exact dst_mono d2 hn
  · rw [h15]; exact dst_mono d3 hn
theorem gI_W {np : Nat} {a x : gA} {w1 w2 : Int32} (h : gI np a x) : gI np (sW a w1 w2) x := by
  obtain ⟨hw, hg, hx⟩ := h
  unfold sW
  by_cases hp : pW a w1 w2 = true
  case neg => rw [if_neg hp]; exact ⟨hw, hg, hx⟩
  rw [if_pos hp]
  unfold pW at hp
  simp only [Bool.and_eq_true, decide_eq_true_eq] at hp
  obtain ⟨⟨h13, hs⟩, hi, h8⟩ := hp
  obtain ⟨P, hP, rfl⟩ := sIs_of hw.2.1 hw.1 hs
  have hnp := hw.1
  have ecl : (nI P).toNatClampNeg = P := nI_clamp (by omega)
  obtain ⟨w, hw8, ew⟩ := (hw.2.2.1 P hP).2.2.2.1
  rw [ecl, ew, nI_clamp (by omega)] at h8 ⊢
  refine ⟨?_, WFg_eq (Nat.le_refl _) (fun j _ => rfl) rfl rfl rfl hg, hx⟩
  obtain ⟨c1, c2, c3, c4, c5, c6, c7, c8, c9, c10⟩ := hw
  refine ⟨c1, c2, fun p hp => ⟨(c3 p hp).1, (c3 p hp).2.1, (c3 p hp).2.2.1, ?_, (c3 p hp).2.2.2.2⟩, c4, fun p hp => ⟨?_, (c5 p hp).2⟩, fun x hx => ?_, c7, c8, c9, c10⟩
  · by_cases e : p = P
    · subst e; exact ⟨w + 1, by omega, gu_hit _ _ _ _⟩
    · obtain ⟨w', h1, h2⟩ := (c3 p hp).2.2.2.1
      exact ⟨w', h1, by rw [gu_off (by omega), gu_off (by omega)]; exact h2⟩
  · rw [gu_off (by omega), gu_off (by omega)]; exact (c5 p hp).1
  · rw [gu_off (by omega), gu_off (by omega)]; exact c6 x hx
theorem gI_K {np : Nat} {a x : gA} {w1 w2 : Int32} (h : gI np a x) : gI np (sK a w1 w2) x := by
  obtain ⟨hw, hg, hx⟩ := h
  unfold sK
  by_cases hp : pK a w1 w2 = true
  case neg => rw [if_neg hp]; exact ⟨hw, hg, hx⟩
  rw [if_pos hp]
  unfold pK at hp
  simp only [Bool.and_eq_true, decide_eq_true_eq] at hp
  obtain ⟨⟨h13, hs⟩, hi, h8⟩ := hp
  obtain ⟨P, hP, rfl⟩ := sIs_of hw.2.1 hw.1 hs
  obtain ⟨Q1, hQ, rfl⟩ := sIs_of hw.2.1 hw.1 hi
  have hnp := hw.1
  have ecl : (nI P).toNatClampNeg = P := nI_clamp (by omega)
  obtain ⟨k, hk5, ek, hk⟩ := (hw.2.2.1 P hP).2.2.2.2
  rw [ecl, ek, nI_clamp (by omega)] at h8 ⊢
  refine ⟨?_, WFg_eq (Nat.le_refl _) (fun j _ => rfl) rfl rfl rfl hg, hx⟩
  obtain ⟨c1, c2, c3, c4, c5, c6, c7, c8, c9, c10⟩ := hw
  refine ⟨c1, c2, fun p hp => ⟨(c3 p hp).1, (c3 p hp).2.1, (c3 p hp).2.2.1, (c3 p hp).2.2.2.1, ?_⟩, c4, fun p hp => ⟨(c5 p hp).1, ?_⟩, c6, fun x hx => ?_, c8, c9, c10⟩
  · by_cases e : p = P
    · subst e
      refine ⟨k + 1, by omega, gu_hit _ _ _ _, fun i hi => ?_⟩
      by_cases ei : i = k
      · subst ei; exact ⟨Q1, hQ, by rw [gu_off (by omega), gu_hit]⟩
      · obtain ⟨q, h1, h2⟩ := hk i (by omega)
        exact ⟨q, h1, by rw [gu_off (by omega), gu_off (by omega)]; exact h2⟩
    · obtain ⟨k', h1, h2, h3⟩ := (c3 p hp).2.2.2.2
      refine ⟨k', h1, by rw [gu_off (by omega), gu_off (by omega)]; exact h2, fun i hi => ?_⟩
      obtain ⟨q, h4, h5⟩ := h3 i hi
      exact ⟨q, h4, by rw [gu_off (by omega), gu_off (by omega)]; exact h5⟩
  · rw [gu_off (by omega), gu_off (by omega)]; exact (c5 p hp).2
  · rw [gu_off (by omega), gu_off (by omega)]; exact c7 x hx
theorem gI_r3 {np P : Nat} {a x' : gA} {z : Int32} (hw : WFw np a) (hg : WFg np a) (hP : P < np) (hz : z = -3 ∨ ∃ q, q < np ∧ z = nI q) (hx : WX np (gu a 3 P z) x') : gI np (gu a 3 P z) x' := by
  refine ⟨?_, WFg_eq (Nat.le_refl _) (fun j _ => rfl) rfl rfl rfl hg, hx⟩
  obtain ⟨c1, c2, c3, c4, c5, c6, c7, c8, c9, c10⟩ := hw
  refine ⟨c1, c2, fun p hp => ⟨(c3 p hp).1, (c3 p hp).2.1, ?_, (c3 p hp).2.2.2.1, (c3 p hp).2.2.2.2⟩, c4, c5, c6, c7, c8, c9, c10⟩
  by_cases e : p = P
  · subst e; rw [gu_hit]; exact Or.inr hz
  · rw [gu_off (by omega)]; exact (c3 p hp).2.2.1
theorem gI_M {np : Nat} {a x : gA} {w1 w2 : Int32} (h : gI np a x) : (pM a w1 w2 = true → gI np (sM a w1 w2) (gu (gu x 0 w1.toNatClampNeg 1) 1 w1.toNatClampNeg w2)) ∧ (pM a w1 w2 = false → gI np (sM a w1 w2) x) := by
  obtain ⟨hw, hg, hx⟩ := h
  unfold sM
  refine ⟨fun hp => ?_, fun hp => by rw [hp]; exact ⟨hw, hg, hx⟩⟩
  rw [if_pos hp]
  unfold pM at hp
  simp only [Bool.and_eq_true, decide_eq_true_eq] at hp
  obtain ⟨⟨h13, hs⟩, hi⟩ := hp
  obtain ⟨P, hP, rfl⟩ := sIs_of hw.2.1 hw.1 hs
  obtain ⟨Q1, hQ, rfl⟩ := sIs_of hw.2.1 hw.1 hi
  have hnp := hw.1
  rw [nI_clamp (by omega)]
  refine gI_r3 hw hg hP (Or.inr ⟨Q1, hQ, rfl⟩) ⟨fun p hp => ?_, hx.2⟩
  by_cases e : p = P
  · subst e
    exact Or.inr (Or.inr ⟨Q1, hQ, gu_hit _ _ _ _, by rw [gu_off (by omega), gu_hit], gu_hit _ _ _ _⟩)
  · rw [gu_off (by omega), gu_off (by omega), gu_off (by omega), gu_off (by omega), gu_off (by omega)]
    exact hx.1 p hp
theorem gI_D {np : Nat} {a x : gA} {w1 : Int32} (h : gI np a x) : (pD a w1 = true → gI np (sD a w1) (gu x 0 w1.toNatClampNeg 2)) ∧ (pD a w1 = false → gI np (sD a w1) x) := by
  obtain ⟨hw, hg, hx⟩ := h
  unfold sD
  refine ⟨fun hp => ?_, fun hp => by rw [hp]; exact ⟨hw, hg, hx⟩⟩
  rw [if_pos hp]
  unfold pD at hp
  simp only [Bool.and_eq_true, decide_eq_true_eq] at hp
  obtain ⟨h13, hs⟩ := hp
  obtain ⟨P, hP, rfl⟩ := sIs_of hw.2.1 hw.1 hs
  have hnp := hw.1
  rw [nI_clamp (by omega)]
  refine gI_r3 hw hg hP (Or.inl rfl) ⟨fun p hp => ?_, hx.2⟩
  by_cases e : p = P
  · subst e
    exact Or.inr (Or.inl ⟨gu_hit _ _ _ _, gu_hit _ _ _ _⟩)
  · rw [gu_off (by omega), gu_off (by omega), gu_off (by omega)]
    exact hx.1 p hp
theorem gI_R {np : Nat} {a x : gA} {w1 w2 : Int32} {b : Bool} (h : gI np a x) : gI np (sR a w1 w2 (bI b)) x := by
  obtain ⟨hw, hg, hx⟩ := h
  unfold sR
  by_cases hp : pR a w1 w2 = true
  case neg => rw [if_neg hp]; exact ⟨hw, hg, hx⟩
  rw [if_pos hp]
  unfold pR at hp
  simp only [Bool.and_eq_true, decide_eq_true_eq] at hp
  obtain ⟨h13, hs, hi, h8⟩ := hp
  obtain ⟨P, -, hP, rfl⟩ := sIn_of (lo := 0) (hi := 5) (by decide) (by decide) hs
  obtain ⟨y, -, hy, rfl⟩ := sIn_of (lo := 0) (hi := 999999) (by decide) (by decide) hi
  have ecl : (nI P).toNatClampNeg = P := nI_clamp (by omega)
  obtain ⟨k, hk4, ek, hk⟩ := hw.2.2.2.1 P (by omega)
  rw [ecl, ek, nI_clamp (by omega)] at h8 ⊢
  refine ⟨?_, WFg_eq (Nat.le_refl _) (fun j _ => rfl) rfl rfl rfl hg, hx⟩
  obtain ⟨c1, c2, c3, c4, c5, c6, c7, c8, c9, c10⟩ := hw
  refine ⟨c1, c2, c3, fun h hh => ?_, c5, c6, c7, c8, fun x => ?_, c10⟩
  · by_cases e : h = P
    · subst e
      refine ⟨k + 1, by omega, gu_hit _ _ _ _, fun i hi => ?_⟩
      by_cases ei : i = k
      · subst ei; exact ⟨y, hy, by rw [gu_off (by omega), gu_off (by omega), gu_hit]⟩
      · obtain ⟨q, h1, h2⟩ := hk i (by omega)
        exact ⟨q, h1, by rw [gu_off (by omega), gu_off (by omega), gu_off (by omega)]; exact h2⟩
    · obtain ⟨k', h1, h2, h3⟩ := c4 h hh
      refine ⟨k', h1, by rw [gu_off (by omega), gu_off (by omega), gu_off (by omega)]; exact h2, fun i hi => ?_⟩
      obtain ⟨q, h4, h5⟩ := h3 i hi
      exact ⟨q, h4, by rw [gu_off (by omega), gu_off (by omega), gu_off (by omega)]; exact h5⟩
  · by_cases e : x = 4 * P + k
    · subst e
      rw [gu_off (by omega), gu_hit]
      cases b
      · exact Or.inl rfl
      · exact Or.inr rfl
    · rw [gu_off (by omega), gu_off (by omega), gu_off (by omega)]; exact c9 x
theorem gI_F {np : Nat} {a x : gA} {w1 : Int32} (h : gI np a x) : gI np (sF a w1) x := by
  obtain ⟨hw, hg, hx⟩ := h
  unfold sF
  by_cases hp : pF a w1 = true
  case neg => rw [if_neg hp]; exact ⟨hw, hg, hx⟩
  rw [if_pos hp]
  unfold pF at hp
  simp only [Bool.and_eq_true, decide_eq_true_eq] at hp
  obtain ⟨⟨h13, hs⟩, h8⟩ := hp
  obtain ⟨P, hP, rfl⟩ := sIs_of hw.2.1 hw.1 hs
  obtain ⟨k, hk6, ek, hk⟩ := hw.2.2.2.2.2.2.2.1
  rw [cn_of ek (by omega)] at h8 ⊢
  refine ⟨?_, WFg_eq (Nat.le_refl _) (fun j hj => by rw [gu_off (by omega), gu_off (by omega)]) rfl rfl rfl hg, ⟨hx.1, hx.2.1, hx.2.2⟩⟩
  obtain ⟨c1, c2, c3, c4, c5, c6, c7, c8, c9, c10⟩ := hw
  refine ⟨c1, c2, c3, c4, c5, c6, c7, ⟨k + 1, by omega, gu_hit _ _ _ _, fun i hi => ?_⟩, c9, c10⟩
  by_cases ei : i = k
  · subst ei; exact ⟨P, hP, by rw [gu_off (by omega), gu_hit]⟩
  · obtain ⟨q, h1, h2⟩ := hk i (by omega)
    exact ⟨q, h1, by rw [gu_off (by omega), gu_off (by omega)]; exact h2⟩
theorem gI_S {np : Nat} {a x : gA} (h : gI np a x) : gI np (gu a 0 13 0) x := by
  obtain ⟨hw, hg, hx⟩ := h
  refine ⟨?_, WFg_eq (Nat.le_refl _) (fun j hj => by rw [gu_off (by omega)]) rfl rfl rfl hg, ⟨hx.1, hx.2.1, hx.2.2⟩⟩
  obtain ⟨c1, c2, c3, c4, c5, c6, c7, c8, c9, c10⟩ := hw
  exact ⟨c1, c2, c3, c4, c5, c6, c7, c8, c9, Or.inl (gu_hit _ _ _ _)⟩
theorem gI_P {np : Nat} {a x : gA} {w1 w2 : Int32} (h : gI np a x) : gI (nP a np w1 w2) (sP a w1 w2) (xP a x w1 w2) := by
  obtain ⟨hw, hg, hx⟩ := h
  unfold nP sP xP
  by_cases hp : pP a w1 w2 = true
  case neg => rw [if_neg hp, if_neg hp, if_neg hp]; exact ⟨hw, hg, hx⟩
  rw [if_pos hp, if_pos hp, if_pos hp]
  unfold pP at hp
  have hnp := hw.1
  rw [cn_of hw.2.1 (by omega)] at hp ⊢
  simp only [Bool.and_eq_true, decide_eq_true_eq] at hp
  obtain ⟨h13, hs, hi, h8, -⟩ := hp
  obtain ⟨P, -, hP, rfl⟩ := sIn_of (lo := 0) (hi := 5) (by decide) (by decide) hs
  obtain ⟨y, hy1, hy, rfl⟩ := sIn_of (lo := 1) (hi := 999999) (by decide) (by decide) hi
  refine ⟨?_, WFg_eq (Nat.le_succ _) (fun j hj => by rw [gu_off (by omega), gu_off (by omega), gu_off (by omega), gu_off (by omega)]) rfl rfl rfl hg, ⟨fun p hp => ?_, hx.2.1, hx.2.2⟩⟩
  · obtain ⟨c1, c2, c3, c4, c5, c6, c7, ⟨k, hk6, ek, hk⟩, c9, c10⟩ := hw
    refine ⟨by omega, gu_hit _ _ _ _, fun p hp => ?_, c4, fun p hp => c5 p (by omega), fun x hx => c6 x (by omega), fun x hx => c7 x (by omega), ⟨k, hk6, ek, fun i hi => ?_⟩, c9, c10⟩
    · by_cases e : p = np
      · subst e
        refine ⟨⟨P, by omega, by rw [gu_off (by omega), gu_off (by omega), gu_off (by omega), gu_hit]⟩, ⟨y, hy1, hy, by rw [gu_off (by omega), gu_off (by omega), gu_hit]⟩, Or.inl (by rw [gu_off (by omega), gu_hit]), ⟨0, by omega, (c5 p (Nat.le_refl _)).1⟩, 0, by omega, (c5 p (Nat.le_refl _)).2, fun i hi => absurd hi (Nat.not_lt_zero _)⟩
      · obtain ⟨d1, d2, d3, d4, k', h1, h2, h3⟩ := c3 p (by omega)
        refine ⟨?_, ?_, ?_, d4, k', h1, h2, fun i hi => ?_⟩
        · rw [gu_off (by omega), gu_off (by omega), gu_off (by omega), gu_off (by omega)]; exact d1
        · rw [gu_off (by omega), gu_off (by omega), gu_off (by omega), gu_off (by omega)]; exact d2
        · rw [gu_off (by omega), gu_off (by omega), gu_off (by omega), gu_off (by omega)]
          exact d3.imp id (Or.imp id (fun ⟨q, hq, e⟩ => ⟨q, by omega, e⟩))
        · obtain ⟨q, h4, h5⟩ := h3 i hi
          exact ⟨q, by omega, h5⟩
    · obtain ⟨q, h1, h2⟩ := hk i hi
      exact ⟨q, by omega, h2⟩
  · by_cases e : p = np
    · subst e
      exact Or.inl ⟨by rw [gu_off (by omega), gu_hit], by rw [gu_off (by omega), gu_hit]⟩
    · rw [gu_off (by omega), gu_off (by omega), gu_off (by omega), gu_off (by omega), gu_off (by omega), gu_off (by omega), gu_off (by omega), gu_off (by omega)]
      exact (hx.1 p (by omega)).imp id (Or.imp id (fun ⟨q, hq, e⟩ => ⟨q, by omega, e⟩))
theorem gI_B {np : Nat} {a x : gA} {w1 w2 w3 w4 : Int32} (hw : WFw np a) (hg : WFg np a) (hx : WX np (sB a w1 w2 w3 w4) x) : gI np (sB a w1 w2 w3 w4) x := by
  refine ⟨?_, ?_, hx⟩
  · unfold sB
    by_cases hp : pB a w1 w2 w3 w4 = true
    case neg => rw [if_neg hp]; exact hw
    rw [if_pos hp]
    have hro : ∀ r, 1 ≤ r → r ≤ 11 → sSt a w1 w2 w3 w4 r = a r := fun r h1 h2 => by
      unfold sSt
      rw [(wk_sMk _).1 r h1 h2, (wk_qk (qk_sQA _ _ _ _)).1 r h1 h2, sAF_row _ _ (by omega)]
      unfold sB0
      rw [gu_ne (by omega), gu_ne (by omega), gu_ne (by omega), gu_ne (by omega), gu_ne (by omega), gu_ne (by omega), gu_ne (by omega), gu_ne (by omega), gu_ne (by omega), gu_ne (by omega)]
    have h0 : ∀ j, j ≤ 12 → sSt a w1 w2 w3 w4 0 j = a 0 j := fun j h1 => by
      unfold sSt
      rw [(wk_sMk _).2 j (by omega), (wk_qk (qk_sQA _ _ _ _)).2 j (by omega), sAF_row _ _ (by omega)]
      unfold sB0
      rw [gu_off (by omega), gu_off (by omega), gu_off (by omega), gu_off (by omega), gu_off (by omega), gu_off (by omega), gu_off (by omega), gu_off (by omega), gu_off (by omega), gu_off (by omega)]
    exact WFw_ro (fun r h1 h2 => by rw [gu_ne (by omega)]; exact hro r h1 h2) (by rw [gu_off (by omega)]; exact h0 0 (by omega)) (by rw [gu_off (by omega)]; exact h0 12 (by omega)) (Or.inr (gu_hit _ _ _ _)) hw
  · unfold sB
    by_cases hp : pB a w1 w2 w3 w4 = true
    case neg => rw [if_neg hp]; exact hg
    rw [if_pos hp]
    unfold pB at hp
    simp only [Bool.and_eq_true, decide_eq_true_eq] at hp
    obtain ⟨hp4, -, hhp4, rfl⟩ := sIn_of (lo := 0) (hi := 4) (by decide) (by decide) hp.2.2.2.1
    obtain ⟨k, hk6, ek, hk⟩ := hw.2.2.2.2.2.2.2.1
    refine WFg_eq (a := sSt a w1 (nI hp4) w3 w4) (Nat.le_refl _) (fun j hj => gu_off (by omega)) rfl rfl rfl ?_
    unfold sSt
    rw [cn_of ek (by omega)]
    have r0 : sAF (sB0 a w1 (nI hp4) w3 w4) 0 6 0 = sB0 a w1 (nI hp4) w3 w4 0 := sAF_row _ _ (by decide) 6
    have hq := qk_sQA (a 11) 0 (sAF (sB0 a w1 (nI hp4) w3 w4) 0 6) k
    obtain ⟨nq2, -, hn2, hd2⟩ := sQA_dst (f := a 11) (d := 0) (a := sAF (sB0 a w1 (nI hp4) w3 w4) 0 6) (nq := 0) (np := np) (by rw [r0]; rfl) (dst_0 _ _) hw.1 k hk
    refine WFg_mark (hd := 0) (nq := nq2) (nf := 0) (ng := 0) (hp := hp4) ?_ hn2 ?_ ?_ ?_ hhp4 (Nat.zero_le _) hd2 (dst_0 _ _) (dst_0 _ _)
    · rw [hq 0 20 (by omega), r0]; rfl
    · rw [hq 0 23 (by omega), r0]; rfl
    · rw [hq 0 25 (by omega), r0]; rfl
    · rw [hq 0 15 (by omega), r0]; rfl
theorem gI_C {np : Nat} {a x : gA} (hw : WFw np a) (hg : WFg np a) (hx : WX np (sCra a) x) : gI np (sCra a) x := by
  refine ⟨?_, ?_, hx⟩
  · unfold sCra
    by_cases hp : a 0 13 = 0
    case pos => rw [if_pos hp]; exact hw
    rw [if_neg hp]
    unfold sCr
    refine WFw_ro (fun r h1 h2 => ?_) ?_ ?_ ?_ hw
    · rw [gu_ne (by omega), sAF_row _ _ (by omega), gu_ne (by omega), gu_ne (by omega), gu_ne (by omega), gu_ne (by omega)]
    · rw [gu_off (by omega), sAF_row _ _ (by decide)]; rfl
    · rw [gu_off (by omega), sAF_row _ _ (by decide)]; rfl
    · rw [gu_off (by omega), sAF_row _ _ (by decide)]; exact hw.2.2.2.2.2.2.2.2.2
  · unfold sCra
    by_cases hp : a 0 13 = 0
    case pos => rw [if_pos hp]; exact hg
    rw [if_neg hp]
    obtain ⟨hd, nq, nf, ng, mh, mq, mf, mg, hp4, e1, e2, e3, e4, e5, e6, e7, e8, e9, e10, l1, l2, l3, l4, l5, l6, l7, d1, d2, d3⟩ := hg
    have r0 : ∀ j, j ≠ 33 → sCr a 0 j = gu (gu (gu (gu a 0 20 (a 0 29)) 0 21 (a 0 30)) 0 23 (a 0 31)) 0 25 (a 0 32) 0 j := fun j hj => by
      unfold sCr
      rw [gu_off (by omega), sAF_row _ _ (by decide)]
    have rr : ∀ r, r ≠ 0 → r ≠ 16 → sCr a r = a r := fun r h1 h2 => by
      unfold sCr
      rw [gu_ne h1, sAF_row _ _ h2, gu_ne h1, gu_ne h1, gu_ne h1, gu_ne h1]
    refine ⟨mh, mq, mf, mg, mh, mq, mf, mg, hp4, (r0 20 (by decide)).trans e5, (r0 21 (by decide)).trans e6, (r0 23 (by decide)).trans e7, (r0 25 (by decide)).trans e8, (r0 29 (by decide)).trans e5, (r0 30 (by decide)).trans e6, (r0 31 (by decide)).trans e7, (r0 32 (by decide)).trans e8, ?_, (r0 15 (by decide)).trans e10, l1, l4, Nat.le_refl _, l4, Nat.le_refl _, Nat.le_refl _, Nat.le_refl _, ?_, ?_, ?_⟩
    · rw [Nat.sub_self]; unfold sCr; rw [gu_hit]; rfl
    · rw [rr 12 (by decide) (by decide)]; exact dst_cut d1 l5
    · rw [rr 14 (by decide) (by decide)]; exact dst_cut d2 l6
    · rw [rr 15 (by decide) (by decide)]; exact dst_cut d3 l7
theorem gI_O {np : Nat} {a x : gA} {w1 : Int32} (hw : WFw np a) (hg : WFg np a) (hx : WX np (sWo a w1) x) : gI np (sWo a w1) x := by
  refine ⟨?_, ?_, hx⟩
  · unfold sWo
    by_cases hp : pWk a w1 = true
    · rw [if_pos hp]; exact (sWk_wf hw hg _).1
    · rw [if_neg hp]; exact hw
  · unfold sWo
    by_cases hp : pWk a w1 = true
    · rw [if_pos hp]; exact (sWk_wf hw hg _).2
    · rw [if_neg hp]; exact hg
theorem gI_0 : gI 0 (fun _ _ => 0) (fun _ _ => 0) := by
  refine ⟨⟨by decide, rfl, fun p hp => absurd hp (Nat.not_lt_zero _), fun h hh => ⟨0, by decide, rfl, fun i hi => absurd hi (Nat.not_lt_zero _)⟩, fun p hp => ⟨rfl, rfl⟩, fun x hx => rfl, fun x hx => rfl, ⟨0, by decide, rfl, fun i hi => absurd hi (Nat.not_lt_zero _)⟩, fun x => Or.inl rfl, Or.inl rfl⟩, ⟨0, 0, 0, 0, 0, 0, 0, 0, 0, rfl, rfl, rfl, rfl, rfl, rfl, rfl, rfl, rfl, rfl, by decide, by decide, by decide, by decide, by decide, by decide, by decide, dst_0 _ _, dst_0 _ _, dst_0 _ _⟩, ⟨fun p hp => absurd hp (Nat.not_lt_zero _), rfl, 0, by decide, rfl⟩⟩
