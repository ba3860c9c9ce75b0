/-! The first world. -/
def lw_ad (h0 q1 q2 q3 q4 q5 q6 q7 q8 q9 q10 q11 q12 q13 q14 q15 q16 q17 q18 q19 q20 q21 q22 q23 q24 q25 q26 q27 q28 q29 q30 q31 q32 q33 q34 q35 q36 q37 q38 q39 q40 q41 hM m1 m2 m3 m4 m5 m6 m7 m8 m9 m10 m11 m12 m13 m14 m15 m16 m17 m18 m19 : Nat) : Nat → Nat := fun k => [h0, q1, q2, q3, q4, q5, q6, q7, q8, q9, q10, q11, q12, q13, q14, q15, q16, q17, q18, q19, q20, q21, q22, q23, q24, q25, q26, q27, q28, q29, q30, q31, q32, q33, q34, q35, q36, q37, q37 + 1 + 0, q37 + 1 + 1, q37 + 1 + 2, q37 + 1 + 3, q37 + 1 + 4, q37 + 1 + 5, q37 + 1 + 6, q37 + 1 + 7, q37 + 1 + 8, q37 + 1 + 9, q37 + 1 + 10, q37 + 1 + 11, q37 + 1 + 12, q37 + 1 + 13, q37 + 1 + 14, q37 + 1 + 15, q37 + 1 + 16, q37 + 1 + 17, q37 + 1 + 18, q37 + 1 + 19, q37 + 1 + 20, q37 + 1 + 21, q37 + 1 + 22, q37 + 1 + 23, q37 + 1 + 24, q37 + 1 + 25, q37 + 1 + 26, q37 + 1 + 27, q37 + 1 + 28, q37 + 1 + 29, q37 + 1 + 30, q37 + 1 + 31, q38, q39, q40, q41, hM, m1, m2, m3, m4, m5, m6, m7, m8, m9, m10, m11, m12, m13, m14, m15, m16, m17, m18, m19].getD k 0
theorem lw_leads {h0 q1 q2 q3 q4 q5 q6 q7 q8 q9 q10 q11 q12 q13 q14 q15 q16 q17 q18 q19 q20 q21 q22 q23 q24 q25 q26 q27 q28 q29 q30 q31 q32 q33 q34 q35 q36 q37 q38 q39 q40 q41 hM m1 m2 m3 m4 m5 m6 m7 m8 m9 m10 m11 m12 m13 m14 m15 m16 m17 m18 m19 : Nat} : ∀ p, p < 32 → some (q37 + 1 + p) = some (lw_ad h0 q1 q2 q3 q4 q5 q6 q7 q8 q9 q10 q11 q12 q13 q14 q15 q16 q17 q18 q19 q20 q21 q22 q23 q24 q25 q26 q27 q28 q29 q30 q31 q32 q33 q34 q35 q36 q37 q38 q39 q40 q41 hM m1 m2 m3 m4 m5 m6 m7 m8 m9 m10 m11 m12 m13 m14 m15 m16 m17 m18 m19 (38 + p)) := by
  refine lw_fs ?_ rfl
  refine lw_fs ?_ rfl
  refine lw_fs ?_ rfl
  refine lw_fs ?_ rfl
  refine lw_fs ?_ rfl
  refine lw_fs ?_ rfl
  refine lw_fs ?_ rfl
  refine lw_fs ?_ rfl
  refine lw_fs ?_ rfl
  refine lw_fs ?_ rfl
  refine lw_fs ?_ rfl
  refine lw_fs ?_ rfl
  refine lw_fs ?_ rfl
  refine lw_fs ?_ rfl
  refine lw_fs ?_ rfl
  refine lw_fs ?_ rfl
  refine lw_fs ?_ rfl
  refine lw_fs ?_ rfl
  refine lw_fs ?_ rfl
  refine lw_fs ?_ rfl
  refine lw_fs ?_ rfl
  refine lw_fs ?_ rfl
  refine lw_fs ?_ rfl
  refine lw_fs ?_ rfl
  refine lw_fs ?_ rfl
  refine lw_fs ?_ rfl
  refine lw_fs ?_ rfl
  refine lw_fs ?_ rfl
  refine lw_fs ?_ rfl
  refine lw_fs ?_ rfl
  refine lw_fs ?_ rfl
  refine lw_fs ?_ rfl
  exact fun k h => absurd h (Nat.not_lt_zero _)
set_option maxHeartbeats 4000000 in
set_option maxRecDepth 20000 in
theorem lw_world {g : gG} {A : Nat → Prop} {H : Heap} {h0 q1 q2 q3 q4 q5 q6 q7 q8 q9 q10 q11 q12 q13 q14 q15 q16 q17 q18 q19 q20 q21 q22 q23 q24 q25 q26 q27 q28 q29 q30 q31 q32 q33 q34 q35 q36 q37 q38 q39 q40 q41 hM m1 m2 m3 m4 m5 m6 m7 m8 m9 m10 m11 m12 m13 m14 m15 m16 m17 m18 m19 : Nat} (hW : nW g A (([] ++ [(h0, .inr (0, [.ref q1, .ref q24, .ref q34, .int 0])), (q1, .inr (1, [.ref q2, .ref q3, .ref q22, .int 0])), (q2, .inl (g.2.1 3, 32, .inr (.inr (.inr (.inr (fun _ => none)))))), (q3, .inl (g.2.1 4, 6, .inr (.inr (.inr (.inr (va_up (va_up (va_up (va_up (va_up (va_up (fun _ => none) (Int32.toNatClampNeg 0) (some q4)) (Int32.toNatClampNeg 1) (some q7)) (Int32.toNatClampNeg 2) (some q10)) (Int32.toNatClampNeg 3) (some q13)) (Int32.toNatClampNeg 4) (some q16)) (Int32.toNatClampNeg 5) (some q19))))))), (q4, .inr (2, [.ref q5, .ref q6, .int 0])), (q5, .inl (g.2.1 0, 4, .inl (fun _ => 0))), (q6, .inl (g.2.1 1, 4, .inl (fun _ => 0))), (q7, .inr (2, [.ref q8, .ref q9, .int 0])), (q8, .inl (g.2.1 0, 4, .inl (fun _ => 0))), (q9, .inl (g.2.1 1, 4, .inl (fun _ => 0))), (q10, .inr (2, [.ref q11, .ref q12, .int 0])), (q11, .inl (g.2.1 0, 4, .inl (fun _ => 0))), (q12, .inl (g.2.1 1, 4, .inl (fun _ => 0))), (q13, .inr (2, [.ref q14, .ref q15, .int 0])), (q14, .inl (g.2.1 0, 4, .inl (fun _ => 0))), (q15, .inl (g.2.1 1, 4, .inl (fun _ => 0))), (q16, .inr (2, [.ref q17, .ref q18, .int 0])), (q17, .inl (g.2.1 0, 4, .inl (fun _ => 0))), (q18, .inl (g.2.1 1, 4, .inl (fun _ => 0))), (q19, .inr (2, [.ref q20, .ref q21, .int 0])), (q20, .inl (g.2.1 0, 4, .inl (fun _ => 0))), (q21, .inl (g.2.1 1, 4, .inl (fun _ => 0))), (q22, .inr (3, [.ref q23, .int 0])), (q23, .inl (g.2.1 0, 6, .inl (fun _ => 0))), (q24, .inr (5, [.ref q1, .ref q25, .ref q27, .ref q29, .ref q31, .ref q33, .int 0, .int 0, .int 0, .int 0, .int 0, .int 0, .int 0, .int 0, .int 0, .int 0, .int 0])), (q25, .inr (3, [.ref q26, .int 0])), (q26, .inl (g.2.1 0, 32, .inl (fun _ => 0))), (q27, .inr (3, [.ref q28, .int 0])), (q28, .inl (g.2.1 0, 32, .inl (fun _ => 0))), (q29, .inr (3, [.ref q30, .int 0])), (q30, .inl (g.2.1 0, 32, .inl (fun _ => 0))), (q31, .inr (3, [.ref q32, .int 0])), (q32, .inl (g.2.1 0, 32, .inl (fun _ => 0))), (q33, .inl (g.2.1 0, 6, .inl (fun _ => 0))), (q34, .inr (6, [.ref q1, .ref q24, .ref q35, .ref q37, .ref q38, .ref q39, .ref q40, .ref q41])), (q35, .inr (3, [.ref q36, .int 0])), (q36, .inl (g.2.1 0, 32, .inl (fun _ => 0))), (q37, .inl (g.2.1 5, 32, .inr (.inr (.inr (.inr (fun d => some (q37 + 1 + d))))))), (q37 + 1 + 0, .inl (g.2.1 0, 5, .inl (fun _ => 0))), (q37 + 1 + 1, .inl (g.2.1 0, 5, .inl (fun _ => 0))), (q37 + 1 + 2, .inl (g.2.1 0, 5, .inl (fun _ => 0))), (q37 + 1 + 3, .inl (g.2.1 0, 5, .inl (fun _ => 0))), (q37 + 1 + 4, .inl (g.2.1 0, 5, .inl (fun _ => 0))), (q37 + 1 + 5, .inl (g.2.1 0, 5, .inl (fun _ => 0))), (q37 + 1 + 6, .inl (g.2.1 0, 5, .inl (fun _ => 0))), (q37 + 1 + 7, .inl (g.2.1 0, 5, .inl (fun _ => 0))), (q37 + 1 + 8, .inl (g.2.1 0, 5, .inl (fun _ => 0))), (q37 + 1 + 9, .inl (g.2.1 0, 5, .inl (fun _ => 0))), (q37 + 1 + 10, .inl (g.2.1 0, 5, .inl (fun _ => 0))), (q37 + 1 + 11, .inl (g.2.1 0, 5, .inl (fun _ => 0))), (q37 + 1 + 12, .inl (g.2.1 0, 5, .inl (fun _ => 0))), (q37 + 1 + 13, .inl (g.2.1 0, 5, .inl (fun _ => 0))), (q37 + 1 + 14, .inl (g.2.1 0, 5, .inl (fun _ => 0))), (q37 + 1 + 15, .inl (g.2.1 0, 5, .inl (fun _ => 0))), (q37 + 1 + 16, .inl (g.2.1 0, 5, .inl (fun _ => 0))), (q37 + 1 + 17, .inl (g.2.1 0, 5, .inl (fun _ => 0))), (q37 + 1 + 18, .inl (g.2.1 0, 5, .inl (fun _ => 0))), (q37 + 1 + 19, .inl (g.2.1 0, 5, .inl (fun _ => 0))), (q37 + 1 + 20, .inl (g.2.1 0, 5, .inl (fun _ => 0))), (q37 + 1 + 21, .inl (g.2.1 0, 5, .inl (fun _ => 0))), (q37 + 1 + 22, .inl (g.2.1 0, 5, .inl (fun _ => 0))), (q37 + 1 + 23, .inl (g.2.1 0, 5, .inl (fun _ => 0))), (q37 + 1 + 24, .inl (g.2.1 0, 5, .inl (fun _ => 0))), (q37 + 1 + 25, .inl (g.2.1 0, 5, .inl (fun _ => 0))), (q37 + 1 + 26, .inl (g.2.1 0, 5, .inl (fun _ => 0))), (q37 + 1 + 27, .inl (g.2.1 0, 5, .inl (fun _ => 0))), (q37 + 1 + 28, .inl (g.2.1 0, 5, .inl (fun _ => 0))), (q37 + 1 + 29, .inl (g.2.1 0, 5, .inl (fun _ => 0))), (q37 + 1 + 30, .inl (g.2.1 0, 5, .inl (fun _ => 0))), (q37 + 1 + 31, .inl (g.2.1 0, 5, .inl (fun _ => 0))), (q38, .inl (g.2.1 0, 32, .inl (fun _ => 0))), (q39, .inl (g.2.1 2, 32, .inr (.inl (fun _ => 0)))), (q40, .inl (g.2.1 2, 32, .inr (.inl (fun _ => 0)))), (q41, .inl (g.2.1 2, 32, .inr (.inl (fun _ => 0))))]) ++ [(hM, .inr (7, [.int 0, .ref m1, .ref m2, .ref m3, .ref m4, .ref m5, .ref m6, .ref m7, .ref m8, .ref m9, .ref m10, .ref m11, .int 0, .int 0, .int 0, .int 0, .int 0, .int 0, .ref m12, .ref m13, .int 0, .int 0, .ref m14, .int 0, .ref m15, .int 0, .int 0, .ref m16, .int 0, .int 0, .int 0, .int 0, .int 0, .int 0, .ref m17, .ref m18, .ref m19])), (m1, .inl (g.2.1 0, 32, .inl (fun _ => 0))), (m2, .inl (g.2.1 0, 32, .inl (fun _ => 0))), (m3, .inl (g.2.1 0, 32, .inl (fun _ => 0))), (m4, .inl (g.2.1 0, 256, .inl (fun _ => 0))), (m5, .inl (g.2.1 0, 32, .inl (fun _ => 0))), (m6, .inl (g.2.1 0, 160, .inl (fun _ => 0))), (m7, .inl (g.2.1 0, 32, .inl (fun _ => 0))), (m8, .inl (g.2.1 0, 24, .inl (fun _ => 0))), (m9, .inl (g.2.1 1, 24, .inl (fun _ => 0))), (m10, .inl (g.2.1 0, 6, .inl (fun _ => 0))), (m11, .inl (g.2.1 0, 6, .inl (fun _ => 0))), (m12, .inl (g.2.1 0, 32, .inl (fun _ => 0))), (m13, .inl (g.2.1 0, 32, .inl (fun _ => 0))), (m14, .inl (g.2.1 0, 32, .inl (fun _ => 0))), (m15, .inl (g.2.1 0, 32, .inl (fun _ => 0))), (m16, .inl (g.2.1 0, 6, .inl (fun _ => 0))), (m17, .inl (g.2.1 0, 160, .inl (fun _ => 0))), (m18, .inl (g.2.1 2, 32, .inr (.inl (fun _ => 0)))), (m19, .inl (g.2.1 2, 32, .inr (.inl (fun _ => 0))))]) H) : gW g A (lw_ad h0 q1 q2 q3 q4 q5 q6 q7 q8 q9 q10 q11 q12 q13 q14 q15 q16 q17 q18 q19 q20 q21 q22 q23 q24 q25 q26 q27 q28 q29 q30 q31 q32 q33 q34 q35 q36 q37 q38 q39 q40 q41 hM m1 m2 m3 m4 m5 m6 m7 m8 m9 m10 m11 m12 m13 m14 m15 m16 m17 m18 m19) 0 (fun _ _ => 0, fun _ _ => 0, fun _ _ => 0) (fun _ _ => 0, fun _ _ => 0, fun _ _ => 0) H := by
  refine gW_start hW ?_
  refine lw_fs ?_ ⟨_, rfl, fun h => by rw [ge_10 (show gk 93 = 10 from rfl)]; exact h⟩
  refine lw_fs ?_ ⟨_, rfl, fun h => by rw [ge_10 (show gk 92 = 10 from rfl)]; exact h⟩
  refine lw_fs ?_ ⟨_, rfl, fun h => by rw [ge_8 (show gk 91 = 8 from rfl)]; exact h⟩
  refine lw_fs ?_ ⟨_, rfl, fun h => by rw [ge_8 (show gk 90 = 8 from rfl)]; exact h⟩
  refine lw_fs ?_ ⟨_, rfl, fun h => by rw [ge_8 (show gk 89 = 8 from rfl)]; exact h⟩
  refine lw_fs ?_ ⟨_, rfl, fun h => by rw [ge_8 (show gk 88 = 8 from rfl)]; exact h⟩
  refine lw_fs ?_ ⟨_, rfl, fun h => by rw [ge_8 (show gk 87 = 8 from rfl)]; exact h⟩
  refine lw_fs ?_ ⟨_, rfl, fun h => by rw [ge_8 (show gk 86 = 8 from rfl)]; exact h⟩
  refine lw_fs ?_ ⟨_, rfl, fun h => by rw [ge_8 (show gk 85 = 8 from rfl)]; exact h⟩
  refine lw_fs ?_ ⟨_, rfl, fun h => by rw [ge_8 (show gk 84 = 8 from rfl)]; exact h⟩
  refine lw_fs ?_ ⟨_, rfl, fun h => by rw [ge_9 (show gk 83 = 9 from rfl)]; exact h⟩
  refine lw_fs ?_ ⟨_, rfl, fun h => by rw [ge_8 (show gk 82 = 8 from rfl)]; exact h⟩
  refine lw_fs ?_ ⟨_, rfl, fun h => by rw [ge_8 (show gk 81 = 8 from rfl)]; exact h⟩
  refine lw_fs ?_ ⟨_, rfl, fun h => by rw [ge_8 (show gk 80 = 8 from rfl)]; exact h⟩
  refine lw_fs ?_ ⟨_, rfl, fun h => by rw [ge_8 (show gk 79 = 8 from rfl)]; exact h⟩
  refine lw_fs ?_ ⟨_, rfl, fun h => by rw [ge_8 (show gk 78 = 8 from rfl)]; exact h⟩
  refine lw_fs ?_ ⟨_, rfl, fun h => by rw [ge_8 (show gk 77 = 8 from rfl)]; exact h⟩
  refine lw_fs ?_ ⟨_, rfl, fun h => by rw [ge_8 (show gk 76 = 8 from rfl)]; exact h⟩
  refine lw_fs ?_ ⟨_, rfl, fun h => by rw [ge_8 (show gk 75 = 8 from rfl)]; exact h⟩
  refine lw_fs ?_ ⟨_, rfl, fun h => by rw [ge_7 (show gk 74 = 7 from rfl)]; exact h⟩
  refine lw_fs ?_ ⟨_, rfl, fun h => by rw [ge_10 (show gk 73 = 10 from rfl)]; exact h⟩
  refine lw_fs ?_ ⟨_, rfl, fun h => by rw [ge_10 (show gk 72 = 10 from rfl)]; exact h⟩
  refine lw_fs ?_ ⟨_, rfl, fun h => by rw [ge_10 (show gk 71 = 10 from rfl)]; exact h⟩
  refine lw_fs ?_ ⟨_, rfl, fun h => by rw [ge_8 (show gk 70 = 8 from rfl)]; exact h⟩
  refine lw_fs ?_ ⟨_, rfl, fun h => by rw [ge_8 (show gk 69 = 8 from rfl)]; exact h⟩
  refine lw_fs ?_ ⟨_, rfl, fun h => by rw [ge_8 (show gk 68 = 8 from rfl)]; exact h⟩
  refine lw_fs ?_ ⟨_, rfl, fun h => by rw [ge_8 (show gk 67 = 8 from rfl)]; exact h⟩
  refine lw_fs ?_ ⟨_, rfl, fun h => by rw [ge_8 (show gk 66 = 8 from rfl)]; exact h⟩
  refine lw_fs ?_ ⟨_, rfl, fun h => by rw [ge_8 (show gk 65 = 8 from rfl)]; exact h⟩
  refine lw_fs ?_ ⟨_, rfl, fun h => by rw [ge_8 (show gk 64 = 8 from rfl)]; exact h⟩
  refine lw_fs ?_ ⟨_, rfl, fun h => by rw [ge_8 (show gk 63 = 8 from rfl)]; exact h⟩
  refine lw_fs ?_ ⟨_, rfl, fun h => by rw [ge_8 (show gk 62 = 8 from rfl)]; exact h⟩
  refine lw_fs ?_ ⟨_, rfl, fun h => by rw [ge_8 (show gk 61 = 8 from rfl)]; exact h⟩
  refine lw_fs ?_ ⟨_, rfl, fun h => by rw [ge_8 (show gk 60 = 8 from rfl)]; exact h⟩
  refine lw_fs ?_ ⟨_, rfl, fun h => by rw [ge_8 (show gk 59 = 8 from rfl)]; exact h⟩
  refine lw_fs ?_ ⟨_, rfl, fun h => by rw [ge_8 (show gk 58 = 8 from rfl)]; exact h⟩
  refine lw_fs ?_ ⟨_, rfl, fun h => by rw [ge_8 (show gk 57 = 8 from rfl)]; exact h⟩
  refine lw_fs ?_ ⟨_, rfl, fun h => by rw [ge_8 (show gk 56 = 8 from rfl)]; exact h⟩
  refine lw_fs ?_ ⟨_, rfl, fun h => by rw [ge_8 (show gk 55 = 8 from rfl)]; exact h⟩
  refine lw_fs ?_ ⟨_, rfl, fun h => by rw [ge_8 (show gk 54 = 8 from rfl)]; exact h⟩
  refine lw_fs ?_ ⟨_, rfl, fun h => by rw [ge_8 (show gk 53 = 8 from rfl)]; exact h⟩
  refine lw_fs ?_ ⟨_, rfl, fun h => by rw [ge_8 (show gk 52 = 8 from rfl)]; exact h⟩
  refine lw_fs ?_ ⟨_, rfl, fun h => by rw [ge_8 (show gk 51 = 8 from rfl)]; exact h⟩
  refine lw_fs ?_ ⟨_, rfl, fun h => by rw [ge_8 (show gk 50 = 8 from rfl)]; exact h⟩
  refine lw_fs ?_ ⟨_, rfl, fun h => by rw [ge_8 (show gk 49 = 8 from rfl)]; exact h⟩
  refine lw_fs ?_ ⟨_, rfl, fun h => by rw [ge_8 (show gk 48 = 8 from rfl)]; exact h⟩
  refine lw_fs ?_ ⟨_, rfl, fun h => by rw [ge_8 (show gk 47 = 8 from rfl)]; exact h⟩
  refine lw_fs ?_ ⟨_, rfl, fun h => by rw [ge_8 (show gk 46 = 8 from rfl)]; exact h⟩
  refine lw_fs ?_ ⟨_, rfl, fun h => by rw [ge_8 (show gk 45 = 8 from rfl)]; exact h⟩
  refine lw_fs ?_ ⟨_, rfl, fun h => by rw [ge_8 (show gk 44 = 8 from rfl)]; exact h⟩
  refine lw_fs ?_ ⟨_, rfl, fun h => by rw [ge_8 (show gk 43 = 8 from rfl)]; exact h⟩
  refine lw_fs ?_ ⟨_, rfl, fun h => by rw [ge_8 (show gk 42 = 8 from rfl)]; exact h⟩
  refine lw_fs ?_ ⟨_, rfl, fun h => by rw [ge_8 (show gk 41 = 8 from rfl)]; exact h⟩
  refine lw_fs ?_ ⟨_, rfl, fun h => by rw [ge_8 (show gk 40 = 8 from rfl)]; exact h⟩
  refine lw_fs ?_ ⟨_, rfl, fun h => by rw [ge_8 (show gk 39 = 8 from rfl)]; exact h⟩
  refine lw_fs ?_ ⟨_, rfl, fun h => by rw [ge_8 (show gk 38 = 8 from rfl)]; exact h⟩
  refine lw_fs ?_ ⟨_, rfl, fun h => by rw [ge_13]; exact at_refs (fun p hp => lw_leads p hp) h⟩
  refine lw_fs ?_ ⟨_, rfl, fun h => by rw [ge_8 (show gk 36 = 8 from rfl)]; exact h⟩
  refine lw_fs ?_ ⟨_, rfl, fun h => by rw [ge_3 (show gk 35 = 3 from rfl)]; exact h⟩
  refine lw_fs ?_ ⟨_, rfl, fun h => by rw [ge_6 (show gk 34 = 6 from rfl)]; exact h⟩
  refine lw_fs ?_ ⟨_, rfl, fun h => by rw [ge_8 (show gk 33 = 8 from rfl)]; exact h⟩
  refine lw_fs ?_ ⟨_, rfl, fun h => by rw [ge_8 (show gk 32 = 8 from rfl)]; exact h⟩
  refine lw_fs ?_ ⟨_, rfl, fun h => by rw [ge_3 (show gk 31 = 3 from rfl)]; exact h⟩
  refine lw_fs ?_ ⟨_, rfl, fun h => by rw [ge_8 (show gk 30 = 8 from rfl)]; exact h⟩
  refine lw_fs ?_ ⟨_, rfl, fun h => by rw [ge_3 (show gk 29 = 3 from rfl)]; exact h⟩
  refine lw_fs ?_ ⟨_, rfl, fun h => by rw [ge_8 (show gk 28 = 8 from rfl)]; exact h⟩
  refine lw_fs ?_ ⟨_, rfl, fun h => by rw [ge_3 (show gk 27 = 3 from rfl)]; exact h⟩
  refine lw_fs ?_ ⟨_, rfl, fun h => by rw [ge_8 (show gk 26 = 8 from rfl)]; exact h⟩
  refine lw_fs ?_ ⟨_, rfl, fun h => by rw [ge_3 (show gk 25 = 3 from rfl)]; exact h⟩
  refine lw_fs ?_ ⟨_, rfl, fun h => by rw [ge_5 (show gk 24 = 5 from rfl)]; exact h⟩
  refine lw_fs ?_ ⟨_, rfl, fun h => by rw [ge_8 (show gk 23 = 8 from rfl)]; exact h⟩
  refine lw_fs ?_ ⟨_, rfl, fun h => by rw [ge_3 (show gk 22 = 3 from rfl)]; exact h⟩
  refine lw_fs ?_ ⟨_, rfl, fun h => by rw [ge_9 (show gk 21 = 9 from rfl)]; exact h⟩
  refine lw_fs ?_ ⟨_, rfl, fun h => by rw [ge_8 (show gk 20 = 8 from rfl)]; exact h⟩
  refine lw_fs ?_ ⟨_, rfl, fun h => by rw [ge_2 (show gk 19 = 2 from rfl)]; exact h⟩
  refine lw_fs ?_ ⟨_, rfl, fun h => by rw [ge_9 (show gk 18 = 9 from rfl)]; exact h⟩
  refine lw_fs ?_ ⟨_, rfl, fun h => by rw [ge_8 (show gk 17 = 8 from rfl)]; exact h⟩
  refine lw_fs ?_ ⟨_, rfl, fun h => by rw [ge_2 (show gk 16 = 2 from rfl)]; exact h⟩
  refine lw_fs ?_ ⟨_, rfl, fun h => by rw [ge_9 (show gk 15 = 9 from rfl)]; exact h⟩
  refine lw_fs ?_ ⟨_, rfl, fun h => by rw [ge_8 (show gk 14 = 8 from rfl)]; exact h⟩
  refine lw_fs ?_ ⟨_, rfl, fun h => by rw [ge_2 (show gk 13 = 2 from rfl)]; exact h⟩
  refine lw_fs ?_ ⟨_, rfl, fun h => by rw [ge_9 (show gk 12 = 9 from rfl)]; exact h⟩
  refine lw_fs ?_ ⟨_, rfl, fun h => by rw [ge_8 (show gk 11 = 8 from rfl)]; exact h⟩
  refine lw_fs ?_ ⟨_, rfl, fun h => by rw [ge_2 (show gk 10 = 2 from rfl)]; exact h⟩
  refine lw_fs ?_ ⟨_, rfl, fun h => by rw [ge_9 (show gk 9 = 9 from rfl)]; exact h⟩
  refine lw_fs ?_ ⟨_, rfl, fun h => by rw [ge_8 (show gk 8 = 8 from rfl)]; exact h⟩
  refine lw_fs ?_ ⟨_, rfl, fun h => by rw [ge_2 (show gk 7 = 2 from rfl)]; exact h⟩
  refine lw_fs ?_ ⟨_, rfl, fun h => by rw [ge_9 (show gk 6 = 9 from rfl)]; exact h⟩
  refine lw_fs ?_ ⟨_, rfl, fun h => by rw [ge_8 (show gk 5 = 8 from rfl)]; exact h⟩
  refine lw_fs ?_ ⟨_, rfl, fun h => by rw [ge_2 (show gk 4 = 2 from rfl)]; exact h⟩
  refine lw_fs ?_ ⟨_, rfl, fun h => by rw [ge_12]; exact at_refs (fun p hp => match p, hp with | 0, _ => rfl | 1, _ => rfl | 2, _ => rfl | 3, _ => rfl | 4, _ => rfl | 5, _ => rfl | n + 6, h => absurd h (by omega)) h⟩
  refine lw_fs ?_ ⟨_, rfl, fun h => by rw [ge_11]; exact at_refs (fun p _ => (if_neg (Nat.not_lt_zero p)).symm) h⟩
  refine lw_fs ?_ ⟨_, rfl, fun h => by rw [ge_1 (show gk 1 = 1 from rfl)]; exact h⟩
  refine lw_fs ?_ ⟨_, rfl, fun h => by rw [ge_0 (show gk 0 = 0 from rfl)]; exact h⟩
  exact fun k h => absurd h (Nat.not_lt_zero _)
