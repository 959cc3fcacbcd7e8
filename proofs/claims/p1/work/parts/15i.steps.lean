/-! ===== RoundKeepers' constructor, up to its reset ===== -/
def M2_X11_init : MT := (my_X11_init, prog_1_method_1_code, 2, none, [], [(0, .aload_n 0, 1), (1, .invokespecial 1, 3), (4, .aload_n 0, 1), (5, .new 7, 3), (8, .dup, 1), (9, .invokespecial 9, 3), (12, .putfield 10, 3), (15, .aload_n 0, 1), (16, .sipush 300, 3), (19, .newarray .int, 2), (21, .putfield 16, 3), (24, .aload_n 0, 1), (25, .new 20, 3), (28, .dup, 1), (29, .aload_n 0, 1), (30, .getfield 16, 3), (33, .invokespecial 22, 3), (36, .putfield 25, 3), (39, .aload_n 0, 1), (40, .new 29, 3), (43, .dup, 1), (44, .aload_n 0, 1), (45, .getfield 10, 3), (48, .invokespecial 31, 3), (51, .putfield 34, 3), (54, .aload_n 0, 1), (55, .iconst 4, 1), (56, .newarray .int, 2), (58, .putfield 38, 3), (61, .aload_n 0, 1), (62, .iconst 3, 1), (63, .anewarray 41, 3), (66, .putfield 43, 3), (69, .iconst 0, 1), (70, .istore_n 1, 1), (71, .iload_n 1, 1), (72, .iconst 3, 1), (73, .if_icmp .ge 31, 3), (76, .aload_n 0, 1), (77, .getfield 43, 3), (80, .iload_n 1, 1), (81, .new 41, 3), (84, .dup, 1), (85, .iload_n 1, 1), (86, .aload_n 0, 1), (87, .getfield 10, 3), (90, .aload_n 0, 1), (91, .getfield 16, 3), (94, .invokespecial 47, 3), (97, .aastore, 1), (98, .iinc 1 1, 3), (101, .goto (-30), 3), (104, .aload_n 0, 1), (105, .bipush 9, 2), (107, .anewarray 50, 3), (110, .putfield 52, 3), (113, .iconst 0, 1), (114, .istore_n 1, 1), (115, .iload_n 1, 1), (116, .bipush 9, 2), (118, .if_icmp .ge 31, 3), (121, .aload_n 0, 1), (122, .getfield 52, 3), (125, .iload_n 1, 1), (126, .new 50, 3), (129, .dup, 1), (130, .iload_n 1, 1), (131, .aload_n 0, 1), (132, .getfield 10, 3), (135, .aload_n 0, 1), (136, .getfield 16, 3), (139, .invokespecial 56, 3), (142, .aastore, 1), (143, .iinc 1 1, 3), (146, .goto (-31), 3), (149, .aload_n 0, 1), (150, .bipush 12, 2), (152, .anewarray 57, 3), (155, .putfield 59, 3), (158, .iconst 0, 1), (159, .istore_n 1, 1), (160, .iload_n 1, 1), (161, .bipush 12, 2), (163, .if_icmp .ge 31, 3), (166, .aload_n 0, 1), (167, .getfield 59, 3), (170, .iload_n 1, 1), (171, .new 57, 3), (174, .dup, 1), (175, .iload_n 1, 1), (176, .aload_n 0, 1), (177, .getfield 10, 3), (180, .aload_n 0, 1), (181, .getfield 25, 3), (184, .invokespecial 63, 3), (187, .aastore, 1), (188, .iinc 1 1, 3), (191, .goto (-31), 3), (194, .aload_n 0, 1), (195, .invokevirtual 66, 3), (198, .return_, 1)], [(10, 11, 0), (16, 11, 1), (25, 11, 2), (34, 11, 6), (38, 11, 7), (43, 11, 3), (52, 11, 4), (59, 11, 5)], [(1, objectInit, 0, 3, 0, 0, 0), (9, my_X0_init, 0, 2, 2, 805, 10450), (22, my_X9_init, 1, 2, 1, 2, 1216), (31, my_X2_init, 1, 2, 1, 1, 48), (47, my_X5_init, 3, 2, 2, 10, 124), (56, my_X3_init, 3, 2, 1, 1, 10), (63, my_X10_init, 3, 2, 1, 1, 16), (66, my_X11_resetAll, 0, 21, 7, 0, 0)], [(7, 0), (20, 9), (29, 2), (41, 5), (50, 3), (57, 10)], [], [929, 930, 931, 935, 936, 932, 933, 934, 121, 122, 123, 126, 127, 86, 238, 239, 88, 263, 264, 89, 282, 283, 90, 449, 450, 94, 494, 495, 95, 518, 520, 0, 85, 124, 125, 86, 236, 237, 88, 261, 262, 89, 279, 281, 90, 446, 448, 94, 491, 493, 95])
theorem ok2_X11_init : mt_ok M2_X11_init = true := by decide +kernel
theorem cw2_X11_init : Cond.code (mt_y M2_X11_init) (mt_b M2_X11_init) (mt_l M2_X11_init) (mt_r M2_X11_init) ∈ lw_tbl := List.mem_of_getElem? (i := 120) (by decide +kernel)
def T0 : List (Nat × Nat × Nat) × List (Nat × Nat × Nat) := ([(0, 1, 0), (1, 53, 400)], [(0, 0, 1), (0, 1, 802), (0, 2, 804)])
theorem ST_air {g0 h h1 : GT} {x : Nat} {T : List (Nat × Nat × Nat) × List (Nat × Nat × Nat)} {O : List (Nat × Nat × Nat)} {I : List (Nat × Nat × Int32)} (s : ST g0 h x 1 0 T O I) (e : AirNew (px_N h 1 0) (gx_Z h) h1) : ST g0 h1 x 807 402 (T.1 ++ T0.1.map (fun q => (1 + q.1, q.2)), T.2 ++ (T0.2.map (fun q => (1 + q.1, q.2.1, 1 + q.2.2)) ++ [])) O (I ++ []) := by
  obtain ⟨⟨a1, a2, a3, a4, a5, a6, a7⟩, b1, b2⟩ := e
  have hz : gx_Z (px_N h 1 0) = gx_Z h + 1 := rfl
  have hs := s.1
  have s1 := ST_obj (w := 806) (T' := T0) [] [] s (by omega) (fun q hq => ((gwN (g := h) (k := 1) (n := 0) (a := gx_Z h)).trans a2).2 q hq (Nat.ne_of_lt hq)) ⟨fun q hq => by
      simp only [T0, List.mem_cons, List.not_mem_nil, or_false] at hq
      rcases hq with rfl | rfl
      · exact ⟨kg a2.1 zNew kNew, ng a2.1 zNew nNew⟩
      · exact ⟨a4, a5⟩, fun q hq => by
      simp only [T0, List.mem_cons, List.not_mem_nil, or_false] at hq
      rcases hq with rfl | rfl | rfl
      · exact a3
      · exact b1
      · exact b2⟩ (fun q hq => nomatch hq) (fun q hq => nomatch hq) (by decide) (by decide) (fun q hq => nomatch hq) (fun q hq => nomatch hq)
  obtain ⟨c1, c2, c3, c4, c5, -, -, -, c8⟩ := s1
  refine ⟨c1, c2, c3, c4, c5, Or.inr (by decide), fun j h1 h2 => ?_, fun j h1 h2 => ?_, c8⟩
  · have := a6 j h1 h2
    rw [hz, hs] at this
    exact this
  · have := a7 j h1
    rw [hz, hs] at this
    exact this
theorem ST_tally {g0 h h1 : GT} {x n m : Nat} {T : List (Nat × Nat × Nat) × List (Nat × Nat × Nat)} {O : List (Nat × Nat × Nat)} {I : List (Nat × Nat × Int32)} {gp : Nat} (s : ST g0 h x n m T O I) (e : h1 = F_X9_init (px_N h 10 0) (gx_Z h) (x + gp)) : ST g0 h1 x (n + 3) m (T.1 ++ T9.1.map (fun q => (n + q.1, q.2)), T.2 ++ (T9.2.map (fun q => (n + q.1, q.2.1, n + q.2.2)) ++ [(n + 0, 900, gp)])) O (I ++ []) := by
  subst e
  have hs := s.1
  have N := new9 h (x + gp)
  rw [hs] at N
  have hg := (gwN (g := h) (k := 10) (n := 0) (a := gx_Z h)).trans (gw_X9_init (px_N h 10 0) (gx_Z h) (x + gp))
  refine ST_obj [(n + 0, 900, gp)] [] s (by rw [hs]; exact N.1) (fun q hq => hg.2 q hq (Nat.ne_of_lt hq)) (by rw [hs]; exact N.2.1) (fun q hq => ?_) (fun q hq => ?_) (by decide) (by decide) (fun q hq => ?_) (fun q hq => ?_)
  · simp only [List.mem_cons, List.not_mem_nil, or_false] at hq
    obtain rfl := hq
    rw [hs]; exact N.2.2
  · exact nomatch hq
  · simp only [List.mem_cons, List.not_mem_nil, or_false] at hq
    obtain rfl := hq
    show n + _ < n + _
    omega
  · exact nomatch hq
theorem ST_copies {g0 h h1 : GT} {x n m : Nat} {T : List (Nat × Nat × Nat) × List (Nat × Nat × Nat)} {O : List (Nat × Nat × Nat)} {I : List (Nat × Nat × Int32)} {ar : Nat} (s : ST g0 h x n m T O I) (e : h1 = F_X2_init (px_N h 3 0) (gx_Z h) (x + ar)) : ST g0 h1 x (n + 2) m (T.1 ++ T2.1.map (fun q => (n + q.1, q.2)), T.2 ++ (T2.2.map (fun q => (n + q.1, q.2.1, n + q.2.2)) ++ [(n + 0, 200, ar)])) O (I ++ []) := by
  subst e
  have hs := s.1
  have N := new2 h (x + ar)
  rw [hs] at N
  have hg := (gwN (g := h) (k := 3) (n := 0) (a := gx_Z h)).trans (gw_X2_init (px_N h 3 0) (gx_Z h) (x + ar))
  refine ST_obj [(n + 0, 200, ar)] [] s (by rw [hs]; exact N.1) (fun q hq => hg.2 q hq (Nat.ne_of_lt hq)) (by rw [hs]; exact N.2.1) (fun q hq => ?_) (fun q hq => ?_) (by decide) (by decide) (fun q hq => ?_) (fun q hq => ?_)
  · simp only [List.mem_cons, List.not_mem_nil, or_false] at hq
    obtain rfl := hq
    rw [hs]; exact N.2.2
  · exact nomatch hq
  · simp only [List.mem_cons, List.not_mem_nil, or_false] at hq
    obtain rfl := hq
    show n + _ < n + _
    omega
  · exact nomatch hq
theorem ST_keeper {g0 h h1 : GT} {x n m : Nat} {T : List (Nat × Nat × Nat) × List (Nat × Nat × Nat)} {O : List (Nat × Nat × Nat)} {I : List (Nat × Nat × Int32)} {ar : Nat} {gp : Nat} {i : Nat} (s : ST g0 h x n m T O I) (e : h1 = F_X3_init (px_N h 4 0) (gx_Z h) (nI i) (x + ar) (x + gp)) : ST g0 h1 x (n + 2) m (T.1 ++ T3.1.map (fun q => (n + q.1, q.2)), T.2 ++ (T3.2.map (fun q => (n + q.1, q.2.1, n + q.2.2)) ++ [(n + 0, 301, ar), (n + 0, 302, gp)])) O (I ++ [(n + 0, 300, nI i)]) := by
  subst e
  have hs := s.1
  have N := new3 h (nI i) (x + ar) (x + gp)
  rw [hs] at N
  have hg := (gwN (g := h) (k := 4) (n := 0) (a := gx_Z h)).trans (gw_X3_init (px_N h 4 0) (gx_Z h) (nI i) (x + ar) (x + gp))
  refine ST_obj [(n + 0, 301, ar), (n + 0, 302, gp)] [(n + 0, 300, nI i)] s (by rw [hs]; exact N.1) (fun q hq => hg.2 q hq (Nat.ne_of_lt hq)) (by rw [hs]; exact N.2.1) (fun q hq => ?_) (fun q hq => ?_) (by decide) (by decide) (fun q hq => ?_) (fun q hq => ?_)
  · simp only [List.mem_cons, List.not_mem_nil, or_false] at hq
    rcases hq with rfl | rfl
    · rw [hs]; exact N.2.2.1
    · rw [hs]; exact N.2.2.2.1
  · simp only [List.mem_cons, List.not_mem_nil, or_false] at hq
    obtain rfl := hq
    rw [hs]; exact N.2.2.2.2
  · simp only [List.mem_cons, List.not_mem_nil, or_false] at hq
    rcases hq with rfl | rfl <;> (show n + _ < n + _; omega)
  · simp only [List.mem_cons, List.not_mem_nil, or_false] at hq
    obtain rfl := hq
    show n + _ < n + _
    omega
theorem ST_voter {g0 h h1 : GT} {x n m : Nat} {T : List (Nat × Nat × Nat) × List (Nat × Nat × Nat)} {O : List (Nat × Nat × Nat)} {I : List (Nat × Nat × Int32)} {ar : Nat} {tl : Nat} {i : Nat} (s : ST g0 h x n m T O I) (e : h1 = F_X10_init (px_N h 11 0) (gx_Z h) (nI i) (x + ar) (x + tl)) : ST g0 h1 x (n + 2) m (T.1 ++ T10.1.map (fun q => (n + q.1, q.2)), T.2 ++ (T10.2.map (fun q => (n + q.1, q.2.1, n + q.2.2)) ++ [(n + 0, 1001, ar), (n + 0, 1002, tl)])) O (I ++ [(n + 0, 1000, nI i)]) := by
  subst e
  have hs := s.1
  have N := new10 h (nI i) (x + ar) (x + tl)
  rw [hs] at N
  have hg := (gwN (g := h) (k := 11) (n := 0) (a := gx_Z h)).trans (gw_X10_init (px_N h 11 0) (gx_Z h) (nI i) (x + ar) (x + tl))
  refine ST_obj [(n + 0, 1001, ar), (n + 0, 1002, tl)] [(n + 0, 1000, nI i)] s (by rw [hs]; exact N.1) (fun q hq => hg.2 q hq (Nat.ne_of_lt hq)) (by rw [hs]; exact N.2.1) (fun q hq => ?_) (fun q hq => ?_) (by decide) (by decide) (fun q hq => ?_) (fun q hq => ?_)
  · simp only [List.mem_cons, List.not_mem_nil, or_false] at hq
    rcases hq with rfl | rfl
    · rw [hs]; exact N.2.2.1
    · rw [hs]; exact N.2.2.2.1
  · simp only [List.mem_cons, List.not_mem_nil, or_false] at hq
    obtain rfl := hq
    rw [hs]; exact N.2.2.2.2
  · simp only [List.mem_cons, List.not_mem_nil, or_false] at hq
    rcases hq with rfl | rfl <;> (show n + _ < n + _; omega)
  · simp only [List.mem_cons, List.not_mem_nil, or_false] at hq
    obtain rfl := hq
    show n + _ < n + _
    omega
theorem ST_leader {g0 h h1 : GT} {x n m : Nat} {T : List (Nat × Nat × Nat) × List (Nat × Nat × Nat)} {O : List (Nat × Nat × Nat)} {I : List (Nat × Nat × Int32)} {ar : Nat} {gp : Nat} {i : Nat} (s : ST g0 h x n m T O I) (e : h1 = F_X5_init (px_N h 6 0) (gx_Z h) (nI i) (x + ar) (x + gp)) : ST g0 h1 x (n + 11) m (T.1 ++ T5.1.map (fun q => (n + q.1, q.2)), T.2 ++ (T5.2.map (fun q => (n + q.1, q.2.1, n + q.2.2)) ++ [(n + 0, 501, ar), (n + 0, 502, gp), (n + 3, 401, ar), (n + 5, 801, ar)])) O (I ++ [(n + 0, 500, nI i), (n + 3, 400, nI i), (n + 5, 800, nI i)]) := by
  subst e
  have hs := s.1
  have N := new5 h (nI i) (x + ar) (x + gp)
  rw [hs] at N
  have hg := (gwN (g := h) (k := 6) (n := 0) (a := gx_Z h)).trans (gw_X5_init (px_N h 6 0) (gx_Z h) (nI i) (x + ar) (x + gp) zNew)
  refine ST_obj [(n + 0, 501, ar), (n + 0, 502, gp), (n + 3, 401, ar), (n + 5, 801, ar)] [(n + 0, 500, nI i), (n + 3, 400, nI i), (n + 5, 800, nI i)] s (by rw [hs]; exact N.1) (fun q hq => hg.2 q hq (Nat.ne_of_lt hq)) (by rw [hs]; exact N.2.1) (fun q hq => ?_) (fun q hq => ?_) (by decide) (by decide) (fun q hq => ?_) (fun q hq => ?_)
  · simp only [List.mem_cons, List.not_mem_nil, or_false] at hq
    rcases hq with rfl | rfl | rfl | rfl
    · rw [hs]; exact N.2.2.1
    · rw [hs]; exact N.2.2.2.1
    · rw [hs, ← Nat.add_assoc]; exact N.2.2.2.2.2.1
    · rw [hs, ← Nat.add_assoc]; exact N.2.2.2.2.2.2.2.1
  · simp only [List.mem_cons, List.not_mem_nil, or_false] at hq
    rcases hq with rfl | rfl | rfl
    · rw [hs]; exact N.2.2.2.2.1
    · rw [hs, ← Nat.add_assoc]; exact N.2.2.2.2.2.2.1
    · rw [hs, ← Nat.add_assoc]; exact N.2.2.2.2.2.2.2.2
  · simp only [List.mem_cons, List.not_mem_nil, or_false] at hq
    rcases hq with rfl | rfl | rfl | rfl <;> (show n + _ < n + _; omega)
  · simp only [List.mem_cons, List.not_mem_nil, or_false] at hq
    rcases hq with rfl | rfl | rfl <;> (show n + _ < n + _; omega)
