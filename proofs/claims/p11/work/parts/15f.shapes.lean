/-! ===== the shapes of new objects ===== -/
theorem gxK_N (g : GT) (k n q : Nat) : gx_K (px_N g k n) q = if q = gx_Z g then k else gx_K g q := rfl
theorem gxN_N (g : GT) (k n q : Nat) : gx_N (px_N g k n) q = if q = gx_Z g then n else gx_N g q := rfl
theorem gxZ_N (g : GT) (k n : Nat) : gx_Z (px_N g k n) = gx_Z g + 1 := rfl
theorem gxR_N (g : GT) (k n f q : Nat) : gx_R (px_N g k n) f q = if q = gx_Z g then 0 else gx_R g f q := rfl
theorem gxI_N (g : GT) (k n f q : Nat) : gx_I (px_N g k n) f q = if q = gx_Z g then 0 else gx_I g f q := rfl
theorem gxK_R (g : GT) (f a v q : Nat) : gx_K (px_R g f a v) q = gx_K g q := rfl
theorem gxN_R (g : GT) (f a v q : Nat) : gx_N (px_R g f a v) q = gx_N g q := rfl
theorem gxZ_R (g : GT) (f a v : Nat) : gx_Z (px_R g f a v) = gx_Z g := rfl
theorem gxR_R (g : GT) (f a v f' q : Nat) : gx_R (px_R g f a v) f' q = if f' = f ∧ q = a then v else gx_R g f' q := rfl
theorem gxI_R (g : GT) (f a v f' q : Nat) : gx_I (px_R g f a v) f' q = gx_I g f' q := rfl
theorem gxK_I (g : GT) (f a : Nat) (v : Int32) (q : Nat) : gx_K (px_I g f a v) q = gx_K g q := rfl
theorem gxN_I (g : GT) (f a : Nat) (v : Int32) (q : Nat) : gx_N (px_I g f a v) q = gx_N g q := rfl
theorem gxZ_I (g : GT) (f a : Nat) (v : Int32) : gx_Z (px_I g f a v) = gx_Z g := rfl
theorem gxR_I (g : GT) (f a : Nat) (v : Int32) (f' q : Nat) : gx_R (px_I g f a v) f' q = gx_R g f' q := rfl
theorem gxI_I (g : GT) (f a : Nat) (v : Int32) (f' q : Nat) : gx_I (px_I g f a v) f' q = if f' = f ∧ q = a then v else gx_I g f' q := rfl
theorem new6 (g : GT) : gx_Z (F_X6_init (px_N g 7 0) (gx_Z g)) = gx_Z g + 2 ∧ sh T6 (F_X6_init (px_N g 7 0) (gx_Z g)) (gx_Z g) := by
  have hZ : gx_Z (F_X6_init (px_N g 7 0) (gx_Z g)) = gx_Z g + 2 := by
    simp only [F_X6_init, true_and, and_true, if_true, Nat.add_zero, px_NR, gxK_N, gxN_N, gxZ_N, gxR_N, gxI_N, gxK_R, gxN_R, gxZ_R, gxR_R, gxI_R, gxK_I, gxN_I, gxZ_I, gxR_I, gxI_I]
  refine ⟨hZ, ⟨fun q hq => ?_, fun q hq => ?_⟩⟩
  · simp only [T6, List.mem_cons, List.not_mem_nil, or_false] at hq
    rcases hq with rfl | rfl <;> simp only [F_X6_init, true_and, and_true, if_true, Nat.add_zero, px_NR, gxK_N, gxN_N, gxZ_N, gxR_N, gxI_N, gxK_R, gxN_R, gxZ_R, gxR_R, gxI_R, gxK_I, gxN_I, gxZ_I, gxR_I, gxI_I] <;> refine ⟨?_, ?_⟩ <;> (repeat (first | rw [if_pos (by omega)] | rw [if_neg (by omega)]))
  · simp only [T6, List.mem_cons, List.not_mem_nil, or_false] at hq
    rcases hq with rfl <;> simp only [F_X6_init, true_and, and_true, if_true, Nat.add_zero, px_NR, gxK_N, gxN_N, gxZ_N, gxR_N, gxI_N, gxK_R, gxN_R, gxZ_R, gxR_R, gxI_R, gxK_I, gxN_I, gxZ_I, gxR_I, gxI_I] <;> (repeat (first | rw [if_pos (by omega)] | rw [if_neg (by omega)]))
theorem new9 (g : GT) (groups : Nat) : gx_Z (F_X9_init (px_N g 10 0) (gx_Z g) groups) = gx_Z g + 3 ∧ sh T9 (F_X9_init (px_N g 10 0) (gx_Z g) groups) (gx_Z g) ∧ gx_R (F_X9_init (px_N g 10 0) (gx_Z g) groups) 900 (gx_Z g) = groups := by
  have hZ : gx_Z (F_X9_init (px_N g 10 0) (gx_Z g) groups) = gx_Z g + 3 := by
    simp only [F_X9_init, true_and, and_true, if_true, Nat.add_zero, px_NR, gxK_N, gxN_N, gxZ_N, gxR_N, gxI_N, gxK_R, gxN_R, gxZ_R, gxR_R, gxI_R, gxK_I, gxN_I, gxZ_I, gxR_I, gxI_I]
  refine ⟨hZ, ⟨fun q hq => ?_, fun q hq => ?_⟩, ?_⟩
  · simp only [T9, List.mem_cons, List.not_mem_nil, or_false] at hq
    rcases hq with rfl | rfl | rfl <;> simp only [F_X9_init, true_and, and_true, if_true, Nat.add_zero, px_NR, gxK_N, gxN_N, gxZ_N, gxR_N, gxI_N, gxK_R, gxN_R, gxZ_R, gxR_R, gxI_R, gxK_I, gxN_I, gxZ_I, gxR_I, gxI_I] <;> refine ⟨?_, ?_⟩ <;> (repeat (first | rw [if_pos (by omega)] | rw [if_neg (by omega)]))
  · simp only [T9, List.mem_cons, List.not_mem_nil, or_false] at hq
    rcases hq with rfl | rfl <;> simp only [F_X9_init, true_and, and_true, if_true, Nat.add_zero, px_NR, gxK_N, gxN_N, gxZ_N, gxR_N, gxI_N, gxK_R, gxN_R, gxZ_R, gxR_R, gxI_R, gxK_I, gxN_I, gxZ_I, gxR_I, gxI_I] <;> (repeat (first | rw [if_pos (by omega)] | rw [if_neg (by omega)]))
  · simp only [F_X9_init, true_and, and_true, if_true, Nat.add_zero, px_NR, gxK_N, gxN_N, gxZ_N, gxR_N, gxI_N, gxK_R, gxN_R, gxZ_R, gxR_R, gxI_R, gxK_I, gxN_I, gxZ_I, gxR_I, gxI_I]
    (repeat (first | rw [if_pos (by omega)] | rw [if_neg (by omega)]))
theorem new2 (g : GT) (air : Nat) : gx_Z (F_X2_init (px_N g 3 0) (gx_Z g) air) = gx_Z g + 2 ∧ sh T2 (F_X2_init (px_N g 3 0) (gx_Z g) air) (gx_Z g) ∧ gx_R (F_X2_init (px_N g 3 0) (gx_Z g) air) 200 (gx_Z g) = air := by
  have hZ : gx_Z (F_X2_init (px_N g 3 0) (gx_Z g) air) = gx_Z g + 2 := by
    simp only [F_X2_init, true_and, and_true, if_true, Nat.add_zero, px_NR, gxK_N, gxN_N, gxZ_N, gxR_N, gxI_N, gxK_R, gxN_R, gxZ_R, gxR_R, gxI_R, gxK_I, gxN_I, gxZ_I, gxR_I, gxI_I]
  refine ⟨hZ, ⟨fun q hq => ?_, fun q hq => ?_⟩, ?_⟩
  · simp only [T2, List.mem_cons, List.not_mem_nil, or_false] at hq
    rcases hq with rfl | rfl <;> simp only [F_X2_init, true_and, and_true, if_true, Nat.add_zero, px_NR, gxK_N, gxN_N, gxZ_N, gxR_N, gxI_N, gxK_R, gxN_R, gxZ_R, gxR_R, gxI_R, gxK_I, gxN_I, gxZ_I, gxR_I, gxI_I] <;> refine ⟨?_, ?_⟩ <;> (repeat (first | rw [if_pos (by omega)] | rw [if_neg (by omega)]))
  · simp only [T2, List.mem_cons, List.not_mem_nil, or_false] at hq
    rcases hq with rfl <;> simp only [F_X2_init, true_and, and_true, if_true, Nat.add_zero, px_NR, gxK_N, gxN_N, gxZ_N, gxR_N, gxI_N, gxK_R, gxN_R, gxZ_R, gxR_R, gxI_R, gxK_I, gxN_I, gxZ_I, gxR_I, gxI_I] <;> (repeat (first | rw [if_pos (by omega)] | rw [if_neg (by omega)]))
  · simp only [F_X2_init, true_and, and_true, if_true, Nat.add_zero, px_NR, gxK_N, gxN_N, gxZ_N, gxR_N, gxI_N, gxK_R, gxN_R, gxZ_R, gxR_R, gxI_R, gxK_I, gxN_I, gxZ_I, gxR_I, gxI_I]
    (repeat (first | rw [if_pos (by omega)] | rw [if_neg (by omega)]))
theorem new3 (g : GT) (n : Int32) (air : Nat) (groups : Nat) : gx_Z (F_X3_init (px_N g 4 0) (gx_Z g) n air groups) = gx_Z g + 2 ∧ sh T3 (F_X3_init (px_N g 4 0) (gx_Z g) n air groups) (gx_Z g) ∧ gx_R (F_X3_init (px_N g 4 0) (gx_Z g) n air groups) 301 (gx_Z g) = air ∧ gx_R (F_X3_init (px_N g 4 0) (gx_Z g) n air groups) 302 (gx_Z g) = groups ∧ gx_I (F_X3_init (px_N g 4 0) (gx_Z g) n air groups) 300 (gx_Z g) = n := by
  have hZ : gx_Z (F_X3_init (px_N g 4 0) (gx_Z g) n air groups) = gx_Z g + 2 := by
    simp only [F_X3_init, true_and, and_true, if_true, Nat.add_zero, px_NR, gxK_N, gxN_N, gxZ_N, gxR_N, gxI_N, gxK_R, gxN_R, gxZ_R, gxR_R, gxI_R, gxK_I, gxN_I, gxZ_I, gxR_I, gxI_I]
  refine ⟨hZ, ⟨fun q hq => ?_, fun q hq => ?_⟩, ?_, ?_, ?_⟩
  · simp only [T3, List.mem_cons, List.not_mem_nil, or_false] at hq
    rcases hq with rfl | rfl <;> simp only [F_X3_init, true_and, and_true, if_true, Nat.add_zero, px_NR, gxK_N, gxN_N, gxZ_N, gxR_N, gxI_N, gxK_R, gxN_R, gxZ_R, gxR_R, gxI_R, gxK_I, gxN_I, gxZ_I, gxR_I, gxI_I] <;> refine ⟨?_, ?_⟩ <;> (repeat (first | rw [if_pos (by omega)] | rw [if_neg (by omega)]))
  · simp only [T3, List.mem_cons, List.not_mem_nil, or_false] at hq
    rcases hq with rfl <;> simp only [F_X3_init, true_and, and_true, if_true, Nat.add_zero, px_NR, gxK_N, gxN_N, gxZ_N, gxR_N, gxI_N, gxK_R, gxN_R, gxZ_R, gxR_R, gxI_R, gxK_I, gxN_I, gxZ_I, gxR_I, gxI_I] <;> (repeat (first | rw [if_pos (by omega)] | rw [if_neg (by omega)]))
  · simp only [F_X3_init, true_and, and_true, if_true, Nat.add_zero, px_NR, gxK_N, gxN_N, gxZ_N, gxR_N, gxI_N, gxK_R, gxN_R, gxZ_R, gxR_R, gxI_R, gxK_I, gxN_I, gxZ_I, gxR_I, gxI_I]
    (repeat (first | rw [if_pos (by omega)] | rw [if_neg (by omega)]))
  · simp only [F_X3_init, true_and, and_true, if_true, Nat.add_zero, px_NR, gxK_N, gxN_N, gxZ_N, gxR_N, gxI_N, gxK_R, gxN_R, gxZ_R, gxR_R, gxI_R, gxK_I, gxN_I, gxZ_I, gxR_I, gxI_I]
    (repeat (first | rw [if_pos (by omega)] | rw [if_neg (by omega)]))
  · simp only [F_X3_init, true_and, and_true, if_true, Nat.add_zero, px_NR, gxK_N, gxN_N, gxZ_N, gxR_N, gxI_N, gxK_R, gxN_R, gxZ_R, gxR_R, gxI_R, gxK_I, gxN_I, gxZ_I, gxR_I, gxI_I]
    (repeat (first | rw [if_pos (by omega)] | rw [if_neg (by omega)]))
theorem new10 (g : GT) (n : Int32) (air : Nat) (tally : Nat) : gx_Z (F_X10_init (px_N g 11 0) (gx_Z g) n air tally) = gx_Z g + 2 ∧ sh T10 (F_X10_init (px_N g 11 0) (gx_Z g) n air tally) (gx_Z g) ∧ gx_R (F_X10_init (px_N g 11 0) (gx_Z g) n air tally) 1001 (gx_Z g) = air ∧ gx_R (F_X10_init (px_N g 11 0) (gx_Z g) n air tally) 1002 (gx_Z g) = tally ∧ gx_I (F_X10_init (px_N g 11 0) (gx_Z g) n air tally) 1000 (gx_Z g) = n := by
  have hZ : gx_Z (F_X10_init (px_N g 11 0) (gx_Z g) n air tally) = gx_Z g + 2 := by
    simp only [F_X10_init, true_and, and_true, if_true, Nat.add_zero, px_NR, gxK_N, gxN_N, gxZ_N, gxR_N, gxI_N, gxK_R, gxN_R, gxZ_R, gxR_R, gxI_R, gxK_I, gxN_I, gxZ_I, gxR_I, gxI_I]
  refine ⟨hZ, ⟨fun q hq => ?_, fun q hq => ?_⟩, ?_, ?_, ?_⟩
  · simp only [T10, List.mem_cons, List.not_mem_nil, or_false] at hq
    rcases hq with rfl | rfl <;> simp only [F_X10_init, true_and, and_true, if_true, Nat.add_zero, px_NR, gxK_N, gxN_N, gxZ_N, gxR_N, gxI_N, gxK_R, gxN_R, gxZ_R, gxR_R, gxI_R, gxK_I, gxN_I, gxZ_I, gxR_I, gxI_I] <;> refine ⟨?_, ?_⟩ <;> (repeat (first | rw [if_pos (by omega)] | rw [if_neg (by omega)]))
  · simp only [T10, List.mem_cons, List.not_mem_nil, or_false] at hq
    rcases hq with rfl <;> simp only [F_X10_init, true_and, and_true, if_true, Nat.add_zero, px_NR, gxK_N, gxN_N, gxZ_N, gxR_N, gxI_N, gxK_R, gxN_R, gxZ_R, gxR_R, gxI_R, gxK_I, gxN_I, gxZ_I, gxR_I, gxI_I] <;> (repeat (first | rw [if_pos (by omega)] | rw [if_neg (by omega)]))
  · simp only [F_X10_init, true_and, and_true, if_true, Nat.add_zero, px_NR, gxK_N, gxN_N, gxZ_N, gxR_N, gxI_N, gxK_R, gxN_R, gxZ_R, gxR_R, gxI_R, gxK_I, gxN_I, gxZ_I, gxR_I, gxI_I]
    (repeat (first | rw [if_pos (by omega)] | rw [if_neg (by omega)]))
  · simp only [F_X10_init, true_and, and_true, if_true, Nat.add_zero, px_NR, gxK_N, gxN_N, gxZ_N, gxR_N, gxI_N, gxK_R, gxN_R, gxZ_R, gxR_R, gxI_R, gxK_I, gxN_I, gxZ_I, gxR_I, gxI_I]
    (repeat (first | rw [if_pos (by omega)] | rw [if_neg (by omega)]))
  · simp only [F_X10_init, true_and, and_true, if_true, Nat.add_zero, px_NR, gxK_N, gxN_N, gxZ_N, gxR_N, gxI_N, gxK_R, gxN_R, gxZ_R, gxR_R, gxI_R, gxK_I, gxN_I, gxZ_I, gxR_I, gxI_I]
    (repeat (first | rw [if_pos (by omega)] | rw [if_neg (by omega)]))
theorem new5 (g : GT) (n : Int32) (air : Nat) (groups : Nat) : gx_Z (F_X5_init (px_N g 6 0) (gx_Z g) n air groups) = gx_Z g + 11 ∧ sh T5 (F_X5_init (px_N g 6 0) (gx_Z g) n air groups) (gx_Z g) ∧ gx_R (F_X5_init (px_N g 6 0) (gx_Z g) n air groups) 501 (gx_Z g) = air ∧ gx_R (F_X5_init (px_N g 6 0) (gx_Z g) n air groups) 502 (gx_Z g) = groups ∧ gx_I (F_X5_init (px_N g 6 0) (gx_Z g) n air groups) 500 (gx_Z g) = n ∧ gx_R (F_X5_init (px_N g 6 0) (gx_Z g) n air groups) 401 (gx_Z g + 3) = air ∧ gx_I (F_X5_init (px_N g 6 0) (gx_Z g) n air groups) 400 (gx_Z g + 3) = n ∧ gx_R (F_X5_init (px_N g 6 0) (gx_Z g) n air groups) 801 (gx_Z g + 5) = air ∧ gx_I (F_X5_init (px_N g 6 0) (gx_Z g) n air groups) 800 (gx_Z g + 5) = n := by
  have hZ : gx_Z (F_X5_init (px_N g 6 0) (gx_Z g) n air groups) = gx_Z g + 11 := by
    simp only [F_X5_init, F_5a, F_5b, F_5c, F_5d, F_X4_init, F_X8_init, F_X1_init, true_and, and_true, if_true, Nat.add_zero, px_NR, gxK_N, gxN_N, gxZ_N, gxR_N, gxI_N, gxK_R, gxN_R, gxZ_R, gxR_R, gxI_R, gxK_I, gxN_I, gxZ_I, gxR_I, gxI_I]
  refine ⟨hZ, ⟨fun q hq => ?_, fun q hq => ?_⟩, ?_, ?_, ?_, ?_, ?_, ?_, ?_⟩
  · simp only [T5, List.mem_cons, List.not_mem_nil, or_false] at hq
    rcases hq with rfl | rfl | rfl | rfl | rfl | rfl | rfl | rfl | rfl | rfl | rfl <;> simp only [F_X5_init, F_5a, F_5b, F_5c, F_5d, F_X4_init, F_X8_init, F_X1_init, true_and, and_true, if_true, Nat.add_zero, px_NR, gxK_N, gxN_N, gxZ_N, gxR_N, gxI_N, gxK_R, gxN_R, gxZ_R, gxR_R, gxI_R, gxK_I, gxN_I, gxZ_I, gxR_I, gxI_I] <;> refine ⟨?_, ?_⟩ <;> (repeat (first | rw [if_pos (by omega)] | rw [if_neg (by omega)]))
  · simp only [T5, List.mem_cons, List.not_mem_nil, or_false] at hq
    rcases hq with rfl | rfl | rfl | rfl | rfl | rfl | rfl | rfl | rfl | rfl <;> simp only [F_X5_init, F_5a, F_5b, F_5c, F_5d, F_X4_init, F_X8_init, F_X1_init, true_and, and_true, if_true, Nat.add_zero, px_NR, gxK_N, gxN_N, gxZ_N, gxR_N, gxI_N, gxK_R, gxN_R, gxZ_R, gxR_R, gxI_R, gxK_I, gxN_I, gxZ_I, gxR_I, gxI_I] <;> (repeat (first | rw [if_pos (by omega)] | rw [if_neg (by omega)]))
  · simp only [F_X5_init, F_5a, F_5b, F_5c, F_5d, F_X4_init, F_X8_init, F_X1_init, true_and, and_true, if_true, Nat.add_zero, px_NR, gxK_N, gxN_N, gxZ_N, gxR_N, gxI_N, gxK_R, gxN_R, gxZ_R, gxR_R, gxI_R, gxK_I, gxN_I, gxZ_I, gxR_I, gxI_I]
    (repeat (first | rw [if_pos (by omega)] | rw [if_neg (by omega)]))
  · simp only [F_X5_init, F_5a, F_5b, F_5c, F_5d, F_X4_init, F_X8_init, F_X1_init, true_and, and_true, if_true, Nat.add_zero, px_NR, gxK_N, gxN_N, gxZ_N, gxR_N, gxI_N, gxK_R, gxN_R, gxZ_R, gxR_R, gxI_R, gxK_I, gxN_I, gxZ_I, gxR_I, gxI_I]
    (repeat (first | rw [if_pos (by omega)] | rw [if_neg (by omega)]))
  · simp only [F_X5_init, F_5a, F_5b, F_5c, F_5d, F_X4_init, F_X8_init, F_X1_init, true_and, and_true, if_true, Nat.add_zero, px_NR, gxK_N, gxN_N, gxZ_N, gxR_N, gxI_N, gxK_R, gxN_R, gxZ_R, gxR_R, gxI_R, gxK_I, gxN_I, gxZ_I, gxR_I, gxI_I]
    (repeat (first | rw [if_pos (by omega)] | rw [if_neg (by omega)]))
  · simp only [F_X5_init, F_5a, F_5b, F_5c, F_5d, F_X4_init, F_X8_init, F_X1_init, true_and, and_true, if_true, Nat.add_zero, px_NR, gxK_N, gxN_N, gxZ_N, gxR_N, gxI_N, gxK_R, gxN_R, gxZ_R, gxR_R, gxI_R, gxK_I, gxN_I, gxZ_I, gxR_I, gxI_I]
    (repeat (first | rw [if_pos (by omega)] | rw [if_neg (by omega)]))
  · simp only [F_X5_init, F_5a, F_5b, F_5c, F_5d, F_X4_init, F_X8_init, F_X1_init, true_and, and_true, if_true, Nat.add_zero, px_NR, gxK_N, gxN_N, gxZ_N, gxR_N, gxI_N, gxK_R, gxN_R, gxZ_R, gxR_R, gxI_R, gxK_I, gxN_I, gxZ_I, gxR_I, gxI_I]
    (repeat (first | rw [if_pos (by omega)] | rw [if_neg (by omega)]))
  · simp only [F_X5_init, F_5a, F_5b, F_5c, F_5d, F_X4_init, F_X8_init, F_X1_init, true_and, and_true, if_true, Nat.add_zero, px_NR, gxK_N, gxN_N, gxZ_N, gxR_N, gxI_N, gxK_R, gxN_R, gxZ_R, gxR_R, gxI_R, gxK_I, gxN_I, gxZ_I, gxR_I, gxI_I]
    (repeat (first | rw [if_pos (by omega)] | rw [if_neg (by omega)]))
  · simp only [F_X5_init, F_5a, F_5b, F_5c, F_5d, F_X4_init, F_X8_init, F_X1_init, true_and, and_true, if_true, Nat.add_zero, px_NR, gxK_N, gxN_N, gxZ_N, gxR_N, gxI_N, gxK_R, gxN_R, gxZ_R, gxR_R, gxI_R, gxK_I, gxN_I, gxZ_I, gxR_I, gxI_I]
    (repeat (first | rw [if_pos (by omega)] | rw [if_neg (by omega)]))
