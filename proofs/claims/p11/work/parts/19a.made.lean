/-! ===== the two objects made ===== -/
theorem INVnew {g h : GT} {x : Nat} (s : ST g h x 892 402 T11 O11 I11) : INV x (Uup, ap x WR h) (ap x WR h) := by
  obtain ⟨s1, s2, s3, s4, s5, s6, s7, s8, s9⟩ := s
  refine ⟨shq apq ⟨s2.1, fun q hq => s2.2 q (List.mem_filter.mp hq).1⟩, fun q hq => oq apq (s3 q hq), fun j hj => shq apq (s8 j hj hj), fun i hi => ?_, ?_, ?_, ?_, fun j hj => ?_, ap_tI s4 (by decide +kernel), KFr.refl⟩
  · rw [oq apq (k := gx_O h (x + 2) i) rfl, s7 i (by omega) hi]
    exact ⟨i, by omega, rfl⟩
  · rw [rq apq (k := gx_R h 1 (x + 1)) rfl]
    exact ⟨400, by decide, (show gx_R h 1 (x + 1) = x + 803 from s2.2 (1, 1, 803) (by decide +kernel)).trans (by omega)⟩
  · rw [apI (v := 0) (by decide +kernel)]; exact pk_in 0 400 (by decide)
  · rw [apI (v := 0) (by decide +kernel)]; exact pk_in 0 401 (by decide)
  · show gx_A (ap x WR h) (x + 813) j = Uup j
    rcases (by omega : j = 0 ∨ j = 1 ∨ j = 2 ∨ j = 3) with rfl | rfl | rfl | rfl <;> exact apA (by decide +kernel)
theorem n_X11_init {G : GE} (hst : (ge_l G).stackTraces = false) {x : Nat} {g : GT} (hk : gx_K g x = 12) (hn : gx_N g x = 0) (hz : gx_Z g = x + 1) : ex_M G 8 891 12942 my_X11_init [.ref x] g (fun r h => r = .inl none ∧ (INV x (Uup, h) h ∧ gx_Z h = x + 892 ∧ ∀ q, q < x → sm g h q)) := by
  refine ex_M_of ok2_X11_init cw2_X11_init rfl hst (Nat.le_of_ble_eq_true rfl) ?_
  refine in_X11 hst hk hn hz (fun h s => ?_)
  refine ex_aload_n ok2_X11_init (mi 98 rfl) rfl ?_
  refine ex_callVr (As := []) ok2_X11_init (mi 99 rfl) rfl (m_X11_resetAll hst s.2.1 s.2.2.1 s.2.2.2.1) rfl (fk s.2.1 0 rfl) rfl rfl (by decide) (by decide) (Nat.le_of_ble_eq_true rfl) (by decide) ?_
  refine ex_vret ok2_X11_init (mi 100 rfl) rfl ?_
  exact ⟨rfl, INVnew s, zq apq s.1, fun q hq => (s.2.2.2.2.2.2.2.2 q hq).trans (ap_sm (fun w _ => by omega))⟩
/-- the model's cells so far are zero -/
def ZA (x n : Nat) (h : GT) : Prop := (∀ q, x ≤ q → q < x + n → ∀ j, gx_A h q j = 0) ∧ gx_I h 1248 x = 0
theorem ZA_N {x n k l : Nat} {h : GT} (hz : gx_Z h = x + n) (z : ZA x n h) : ZA x (n + 1) (px_N h k l) := by
  refine ⟨fun q h1 h2 j => ?_, ?_⟩
  · show (if q = gx_Z h then 0 else gx_A h q j) = 0
    by_cases e : q = gx_Z h
    · rw [if_pos e]
    · rw [if_neg e]; exact z.1 q h1 (by omega) j
  · show (if x = gx_Z h then 0 else gx_I h 1248 x) = 0
    by_cases e : x = gx_Z h
    · rw [if_pos e]
    · rw [if_neg e]; exact z.2
theorem ST_putMz {G : GE} {d mc ms : Nat} {M : MT} {pc : Nat} {ls : List (Nat × Value)} {st : List Value} {g0 h : GT} {Q : RT → GT → Prop} {x n m : Nat} {T : List (Nat × Nat × Nat) × List (Nat × Nat × Nat)} {O : List (Nat × Nat × Nat)} {I : List (Nat × Nat × Int32)} {idx j t v kx : Nat} (z : ZA x n h) (hM : mt_ok M = true) (hf : mt_in M pc (.putfield idx) 3) (hp : (mt_f M).lookup idx = some (12, j)) (hr : fx_R 12 j = true) (s : ST g0 h x n m T O I) (hk : gx_K h x = 13) (hv : v = x + t) (hkx : gx_K h (x + t) = kx) (hd : 0 < kx ∧ kx < 60) (hn : ∀ q ∈ T.2, ¬ (q.1 = 0 ∧ q.2.1 = 100 * 12 + j))
    (k : ∀ h1, ST g0 h1 x n m (T.1, T.2 ++ [(0, 100 * 12 + j, t)]) O I → ZA x n h1 → ex_W G d mc ms M (pc + 3) ls st h1 Q) : ex_W G d mc ms M pc ls (.ref v :: .ref x :: st) h Q := by
  subst hv
  exact ex_putRx hM hf hp hk hr hkx hd (k _ (ST_R (100 * 12 + j) t s hn) z)
theorem in_X12z {G : GE} (hst : (ge_l G).stackTraces = false) {x : Nat} {g : GT} {Q : RT → GT → Prop} (hk : gx_K g x = 13) (hn : gx_N g x = 0) (hz : gx_Z g = x + 1) (z0 : ZA x 1 g) (hq : ∀ h, ST g h x 60 0 T12 [] [] → ZA x 60 h → ex_W G 4 0 0 M_X12_init 467 [(0, .ref x)] [] h Q) : ex_W G 4 59 256151 M_X12_init 0 [(0, .ref x)] [] g Q := by
  have s0 : ST g g x 1 0 ([(0, 13, 0)], []) [] [] := ⟨hz, ⟨fun q hq => by
    obtain rfl := List.mem_singleton.mp hq
    exact ⟨hk, hn⟩, fun q hq => nomatch hq⟩, fun q hq => (nomatch hq), fun q hq => (nomatch hq), ⟨fun q hq => by
    obtain rfl := List.mem_singleton.mp hq
    exact Nat.zero_lt_one, fun q hq => (nomatch hq), fun q hq => (nomatch hq), fun q hq => (nomatch hq), Nat.zero_lt_one⟩, Or.inl rfl, fun j h1 => absurd h1 (Nat.not_lt_zero _), fun j h1 => absurd h1 (Nat.not_lt_zero _), fun q _ => sm.refl⟩
  refine ex_aload_n ok_X12_init (mi 0 rfl) rfl ?_
  refine ex_objInit ok_X12_init (mi 1 rfl) rfl (Nat.le_of_ble_eq_true rfl) ?_
  refine ex_aload_n ok_X12_init (mi 2 rfl) rfl ?_
  refine ex_bipush ok_X12_init (mi 3 rfl) ?_
  refine ex_newa (N := 27) ok_X12_init (mi 4 rfl) (Or.inr (Or.inr ⟨rfl, rfl⟩)) (by decide) (by decide) (by decide) hw_B (by omega) (by omega) ?_
  have s1 := ST_N (k := 52) (l := 27) s0
  have z1 := ZA_N (k := 52) (l := 27) s0.1 z0
  refine ST_putMz z1 (t := 1) ok_X12_init (mi 5 rfl) rfl rfl s1 (sh_k s1.2.1 0 rfl) s0.1 (sh_k s1.2.1 1 rfl) (by decide) (by decide) (fun h2 s2 z2 => ?_)
  refine ex_aload_n ok_X12_init (mi 6 rfl) rfl ?_
  refine ex_iconst ok_X12_init (mi 7 rfl) ?_
  refine ex_newa (N := 3) ok_X12_init (mi 8 rfl) (Or.inl ⟨rfl, rfl⟩) (by decide) (by decide) (by decide) hw_I (by omega) (by omega) ?_
  have s3 := ST_N (k := 50) (l := 3) s2
  have z3 := ZA_N (k := 50) (l := 3) s2.1 z2
  refine ST_putMz z3 (t := 2) ok_X12_init (mi 9 rfl) rfl rfl s3 (sh_k s3.2.1 0 rfl) s2.1 (sh_k s3.2.1 2 rfl) (by decide) (by decide) (fun h4 s4 z4 => ?_)
  refine ex_aload_n ok_X12_init (mi 10 rfl) rfl ?_
  refine ex_iconst ok_X12_init (mi 11 rfl) ?_
  refine ex_newa (N := 3) ok_X12_init (mi 12 rfl) (Or.inl ⟨rfl, rfl⟩) (by decide) (by decide) (by decide) hw_I (by omega) (by omega) ?_
  have s5 := ST_N (k := 50) (l := 3) s4
  have z5 := ZA_N (k := 50) (l := 3) s4.1 z4
  refine ST_putMz z5 (t := 3) ok_X12_init (mi 13 rfl) rfl rfl s5 (sh_k s5.2.1 0 rfl) s4.1 (sh_k s5.2.1 3 rfl) (by decide) (by decide) (fun h6 s6 z6 => ?_)
  refine ex_aload_n ok_X12_init (mi 14 rfl) rfl ?_
  refine ex_iconst ok_X12_init (mi 15 rfl) ?_
  refine ex_newa (N := 3) ok_X12_init (mi 16 rfl) (Or.inl ⟨rfl, rfl⟩) (by decide) (by decide) (by decide) hw_I (by omega) (by omega) ?_
  have s7 := ST_N (k := 50) (l := 3) s6
  have z7 := ZA_N (k := 50) (l := 3) s6.1 z6
  refine ST_putMz z7 (t := 4) ok_X12_init (mi 17 rfl) rfl rfl s7 (sh_k s7.2.1 0 rfl) s6.1 (sh_k s7.2.1 4 rfl) (by decide) (by decide) (fun h8 s8 z8 => ?_)
  refine ex_aload_n ok_X12_init (mi 18 rfl) rfl ?_
  refine ex_iconst ok_X12_init (mi 19 rfl) ?_
  refine ex_newa (N := 3) ok_X12_init (mi 20 rfl) (Or.inl ⟨rfl, rfl⟩) (by decide) (by decide) (by decide) hw_I (by omega) (by omega) ?_
  have s9 := ST_N (k := 50) (l := 3) s8
  have z9 := ZA_N (k := 50) (l := 3) s8.1 z8
  refine ST_putMz z9 (t := 5) ok_X12_init (mi 21 rfl) rfl rfl s9 (sh_k s9.2.1 0 rfl) s8.1 (sh_k s9.2.1 5 rfl) (by decide) (by decide) (fun h10 s10 z10 => ?_)
  refine ex_aload_n ok_X12_init (mi 22 rfl) rfl ?_
  refine ex_iconst ok_X12_init (mi 23 rfl) ?_
  refine ex_newa (N := 3) ok_X12_init (mi 24 rfl) (Or.inl ⟨rfl, rfl⟩) (by decide) (by decide) (by decide) hw_I (by omega) (by omega) ?_
  have s11 := ST_N (k := 50) (l := 3) s10
  have z11 := ZA_N (k := 50) (l := 3) s10.1 z10
  refine ST_putMz z11 (t := 6) ok_X12_init (mi 25 rfl) rfl rfl s11 (sh_k s11.2.1 0 rfl) s10.1 (sh_k s11.2.1 6 rfl) (by decide) (by decide) (fun h12 s12 z12 => ?_)
  refine ex_aload_n ok_X12_init (mi 26 rfl) rfl ?_
  refine ex_iconst ok_X12_init (mi 27 rfl) ?_
  refine ex_newa (N := 3) ok_X12_init (mi 28 rfl) (Or.inl ⟨rfl, rfl⟩) (by decide) (by decide) (by decide) hw_I (by omega) (by omega) ?_
  have s13 := ST_N (k := 50) (l := 3) s12
  have z13 := ZA_N (k := 50) (l := 3) s12.1 z12
  refine ST_putMz z13 (t := 7) ok_X12_init (mi 29 rfl) rfl rfl s13 (sh_k s13.2.1 0 rfl) s12.1 (sh_k s13.2.1 7 rfl) (by decide) (by decide) (fun h14 s14 z14 => ?_)
  refine ex_aload_n ok_X12_init (mi 30 rfl) rfl ?_
  refine ex_iconst ok_X12_init (mi 31 rfl) ?_
  refine ex_newa (N := 3) ok_X12_init (mi 32 rfl) (Or.inl ⟨rfl, rfl⟩) (by decide) (by decide) (by decide) hw_I (by omega) (by omega) ?_
  have s15 := ST_N (k := 50) (l := 3) s14
  have z15 := ZA_N (k := 50) (l := 3) s14.1 z14
  refine ST_putMz z15 (t := 8) ok_X12_init (mi 33 rfl) rfl rfl s15 (sh_k s15.2.1 0 rfl) s14.1 (sh_k s15.2.1 8 rfl) (by decide) (by decide) (fun h16 s16 z16 => ?_)
  refine ex_aload_n ok_X12_init (mi 34 rfl) rfl ?_
  refine ex_sipush ok_X12_init (mi 35 rfl) ?_
  refine ex_newa (N := 900) ok_X12_init (mi 36 rfl) (Or.inl ⟨rfl, rfl⟩) (by decide) (by decide) (by decide) hw_I (by omega) (by omega) ?_
  have s17 := ST_N (k := 50) (l := 900) s16
  have z17 := ZA_N (k := 50) (l := 900) s16.1 z16
  refine ST_putMz z17 (t := 9) ok_X12_init (mi 37 rfl) rfl rfl s17 (sh_k s17.2.1 0 rfl) s16.1 (sh_k s17.2.1 9 rfl) (by decide) (by decide) (fun h18 s18 z18 => ?_)
  have s18 : ST g h18 x 10 0 ([(0, 13, 0), (1, 52, 27), (2, 50, 3), (3, 50, 3), (4, 50, 3), (5, 50, 3), (6, 50, 3), (7, 50, 3), (8, 50, 3), (9, 50, 900)], [(0, 1201, 1), (0, 1202, 2), (0, 1203, 3), (0, 1204, 4), (0, 1205, 5), (0, 1206, 6), (0, 1207, 7), (0, 1208, 8), (0, 1209, 9)]) [] [] := s18
  refine ex_aload_n ok_X12_init (mi 38 rfl) rfl ?_
  refine ex_iconst ok_X12_init (mi 39 rfl) ?_
  refine ex_newa (N := 3) ok_X12_init (mi 40 rfl) (Or.inl ⟨rfl, rfl⟩) (by decide) (by decide) (by decide) hw_I (by omega) (by omega) ?_
  have s19 := ST_N (k := 50) (l := 3) s18
  have z19 := ZA_N (k := 50) (l := 3) s18.1 z18
  refine ST_putMz z19 (t := 10) ok_X12_init (mi 41 rfl) rfl rfl s19 (sh_k s19.2.1 0 rfl) s18.1 (sh_k s19.2.1 10 rfl) (by decide) (by decide) (fun h20 s20 z20 => ?_)
  refine ex_aload_n ok_X12_init (mi 42 rfl) rfl ?_
  refine ex_iconst ok_X12_init (mi 43 rfl) ?_
  refine ex_newa (N := 3) ok_X12_init (mi 44 rfl) (Or.inl ⟨rfl, rfl⟩) (by decide) (by decide) (by decide) hw_I (by omega) (by omega) ?_
  have s21 := ST_N (k := 50) (l := 3) s20
  have z21 := ZA_N (k := 50) (l := 3) s20.1 z20
  refine ST_putMz z21 (t := 11) ok_X12_init (mi 45 rfl) rfl rfl s21 (sh_k s21.2.1 0 rfl) s20.1 (sh_k s21.2.1 11 rfl) (by decide) (by decide) (fun h22 s22 z22 => ?_)
  refine ex_aload_n ok_X12_init (mi 46 rfl) rfl ?_
  refine ex_bipush ok_X12_init (mi 47 rfl) ?_
  refine ex_newa (N := 48) ok_X12_init (mi 48 rfl) (Or.inl ⟨rfl, rfl⟩) (by decide) (by decide) (by decide) hw_I (by omega) (by omega) ?_
  have s23 := ST_N (k := 50) (l := 48) s22
  have z23 := ZA_N (k := 50) (l := 48) s22.1 z22
  refine ST_putMz z23 (t := 12) ok_X12_init (mi 49 rfl) rfl rfl s23 (sh_k s23.2.1 0 rfl) s22.1 (sh_k s23.2.1 12 rfl) (by decide) (by decide) (fun h24 s24 z24 => ?_)
  refine ex_aload_n ok_X12_init (mi 50 rfl) rfl ?_
  refine ex_bipush ok_X12_init (mi 51 rfl) ?_
  refine ex_newa (N := 48) ok_X12_init (mi 52 rfl) (Or.inl ⟨rfl, rfl⟩) (by decide) (by decide) (by decide) hw_I (by omega) (by omega) ?_
  have s25 := ST_N (k := 50) (l := 48) s24
  have z25 := ZA_N (k := 50) (l := 48) s24.1 z24
  refine ST_putMz z25 (t := 13) ok_X12_init (mi 53 rfl) rfl rfl s25 (sh_k s25.2.1 0 rfl) s24.1 (sh_k s25.2.1 13 rfl) (by decide) (by decide) (fun h26 s26 z26 => ?_)
  refine ex_aload_n ok_X12_init (mi 54 rfl) rfl ?_
  refine ex_iconst ok_X12_init (mi 55 rfl) ?_
  refine ex_newa (N := 3) ok_X12_init (mi 56 rfl) (Or.inl ⟨rfl, rfl⟩) (by decide) (by decide) (by decide) hw_I (by omega) (by omega) ?_
  have s27 := ST_N (k := 50) (l := 3) s26
  have z27 := ZA_N (k := 50) (l := 3) s26.1 z26
  refine ST_putMz z27 (t := 14) ok_X12_init (mi 57 rfl) rfl rfl s27 (sh_k s27.2.1 0 rfl) s26.1 (sh_k s27.2.1 14 rfl) (by decide) (by decide) (fun h28 s28 z28 => ?_)
  refine ex_aload_n ok_X12_init (mi 58 rfl) rfl ?_
  refine ex_iconst ok_X12_init (mi 59 rfl) ?_
  refine ex_newa (N := 3) ok_X12_init (mi 60 rfl) (Or.inl ⟨rfl, rfl⟩) (by decide) (by decide) (by decide) hw_I (by omega) (by omega) ?_
  have s29 := ST_N (k := 50) (l := 3) s28
  have z29 := ZA_N (k := 50) (l := 3) s28.1 z28
  refine ST_putMz z29 (t := 15) ok_X12_init (mi 61 rfl) rfl rfl s29 (sh_k s29.2.1 0 rfl) s28.1 (sh_k s29.2.1 15 rfl) (by decide) (by decide) (fun h30 s30 z30 => ?_)
  refine ex_aload_n ok_X12_init (mi 62 rfl) rfl ?_
  refine ex_bipush ok_X12_init (mi 63 rfl) ?_
  refine ex_newa (N := 48) ok_X12_init (mi 64 rfl) (Or.inl ⟨rfl, rfl⟩) (by decide) (by decide) (by decide) hw_I (by omega) (by omega) ?_
  have s31 := ST_N (k := 50) (l := 48) s30
  have z31 := ZA_N (k := 50) (l := 48) s30.1 z30
  refine ST_putMz z31 (t := 16) ok_X12_init (mi 65 rfl) rfl rfl s31 (sh_k s31.2.1 0 rfl) s30.1 (sh_k s31.2.1 16 rfl) (by decide) (by decide) (fun h32 s32 z32 => ?_)
  refine ex_aload_n ok_X12_init (mi 66 rfl) rfl ?_
  refine ex_bipush ok_X12_init (mi 67 rfl) ?_
  refine ex_newa (N := 48) ok_X12_init (mi 68 rfl) (Or.inl ⟨rfl, rfl⟩) (by decide) (by decide) (by decide) hw_I (by omega) (by omega) ?_
  have s33 := ST_N (k := 50) (l := 48) s32
  have z33 := ZA_N (k := 50) (l := 48) s32.1 z32
  refine ST_putMz z33 (t := 17) ok_X12_init (mi 69 rfl) rfl rfl s33 (sh_k s33.2.1 0 rfl) s32.1 (sh_k s33.2.1 17 rfl) (by decide) (by decide) (fun h34 s34 z34 => ?_)
  refine ex_aload_n ok_X12_init (mi 70 rfl) rfl ?_
  refine ex_bipush ok_X12_init (mi 71 rfl) ?_
  refine ex_newa (N := 48) ok_X12_init (mi 72 rfl) (Or.inl ⟨rfl, rfl⟩) (by decide) (by decide) (by decide) hw_I (by omega) (by omega) ?_
  have s35 := ST_N (k := 50) (l := 48) s34
  have z35 := ZA_N (k := 50) (l := 48) s34.1 z34
  refine ST_putMz z35 (t := 18) ok_X12_init (mi 73 rfl) rfl rfl s35 (sh_k s35.2.1 0 rfl) s34.1 (sh_k s35.2.1 18 rfl) (by decide) (by decide) (fun h36 s36 z36 => ?_)
  refine ex_aload_n ok_X12_init (mi 74 rfl) rfl ?_
  refine ex_bipush ok_X12_init (mi 75 rfl) ?_
  refine ex_newa (N := 48) ok_X12_init (mi 76 rfl) (Or.inl ⟨rfl, rfl⟩) (by decide) (by decide) (by decide) hw_I (by omega) (by omega) ?_
  have s37 := ST_N (k := 50) (l := 48) s36
  have z37 := ZA_N (k := 50) (l := 48) s36.1 z36
  refine ST_putMz z37 (t := 19) ok_X12_init (mi 77 rfl) rfl rfl s37 (sh_k s37.2.1 0 rfl) s36.1 (sh_k s37.2.1 19 rfl) (by decide) (by decide) (fun h38 s38 z38 => ?_)
  have s38 : ST g h38 x 20 0 ([(0, 13, 0), (1, 52, 27), (2, 50, 3), (3, 50, 3), (4, 50, 3), (5, 50, 3), (6, 50, 3), (7, 50, 3), (8, 50, 3), (9, 50, 900), (10, 50, 3), (11, 50, 3), (12, 50, 48), (13, 50, 48), (14, 50, 3), (15, 50, 3), (16, 50, 48), (17, 50, 48), (18, 50, 48), (19, 50, 48)], [(0, 1201, 1), (0, 1202, 2), (0, 1203, 3), (0, 1204, 4), (0, 1205, 5), (0, 1206, 6), (0, 1207, 7), (0, 1208, 8), (0, 1209, 9), (0, 1210, 10), (0, 1211, 11), (0, 1212, 12), (0, 1213, 13), (0, 1214, 14), (0, 1215, 15), (0, 1216, 16), (0, 1217, 17), (0, 1218, 18), (0, 1219, 19)]) [] [] := s38
  refine ex_aload_n ok_X12_init (mi 78 rfl) rfl ?_
  refine ex_iconst ok_X12_init (mi 79 rfl) ?_
  refine ex_newa (N := 3) ok_X12_init (mi 80 rfl) (Or.inl ⟨rfl, rfl⟩) (by decide) (by decide) (by decide) hw_I (by omega) (by omega) ?_
  have s39 := ST_N (k := 50) (l := 3) s38
  have z39 := ZA_N (k := 50) (l := 3) s38.1 z38
  refine ST_putMz z39 (t := 20) ok_X12_init (mi 81 rfl) rfl rfl s39 (sh_k s39.2.1 0 rfl) s38.1 (sh_k s39.2.1 20 rfl) (by decide) (by decide) (fun h40 s40 z40 => ?_)
  refine ex_aload_n ok_X12_init (mi 82 rfl) rfl ?_
  refine ex_iconst ok_X12_init (mi 83 rfl) ?_
  refine ex_newa (N := 3) ok_X12_init (mi 84 rfl) (Or.inl ⟨rfl, rfl⟩) (by decide) (by decide) (by decide) hw_I (by omega) (by omega) ?_
  have s41 := ST_N (k := 50) (l := 3) s40
  have z41 := ZA_N (k := 50) (l := 3) s40.1 z40
  refine ST_putMz z41 (t := 21) ok_X12_init (mi 85 rfl) rfl rfl s41 (sh_k s41.2.1 0 rfl) s40.1 (sh_k s41.2.1 21 rfl) (by decide) (by decide) (fun h42 s42 z42 => ?_)
  refine ex_aload_n ok_X12_init (mi 86 rfl) rfl ?_
  refine ex_iconst ok_X12_init (mi 87 rfl) ?_
  refine ex_newa (N := 3) ok_X12_init (mi 88 rfl) (Or.inl ⟨rfl, rfl⟩) (by decide) (by decide) (by decide) hw_I (by omega) (by omega) ?_
  have s43 := ST_N (k := 50) (l := 3) s42
  have z43 := ZA_N (k := 50) (l := 3) s42.1 z42
  refine ST_putMz z43 (t := 22) ok_X12_init (mi 89 rfl) rfl rfl s43 (sh_k s43.2.1 0 rfl) s42.1 (sh_k s43.2.1 22 rfl) (by decide) (by decide) (fun h44 s44 z44 => ?_)
  refine ex_aload_n ok_X12_init (mi 90 rfl) rfl ?_
  refine ex_iconst ok_X12_init (mi 91 rfl) ?_
  refine ex_newa (N := 3) ok_X12_init (mi 92 rfl) (Or.inl ⟨rfl, rfl⟩) (by decide) (by decide) (by decide) hw_I (by omega) (by omega) ?_
  have s45 := ST_N (k := 50) (l := 3) s44
  have z45 := ZA_N (k := 50) (l := 3) s44.1 z44
  refine ST_putMz z45 (t := 23) ok_X12_init (mi 93 rfl) rfl rfl s45 (sh_k s45.2.1 0 rfl) s44.1 (sh_k s45.2.1 23 rfl) (by decide) (by decide) (fun h46 s46 z46 => ?_)
  refine ex_aload_n ok_X12_init (mi 94 rfl) rfl ?_
  refine ex_iconst ok_X12_init (mi 95 rfl) ?_
  refine ex_newa (N := 3) ok_X12_init (mi 96 rfl) (Or.inl ⟨rfl, rfl⟩) (by decide) (by decide) (by decide) hw_I (by omega) (by omega) ?_
  have s47 := ST_N (k := 50) (l := 3) s46
  have z47 := ZA_N (k := 50) (l := 3) s46.1 z46
  refine ST_putMz z47 (t := 24) ok_X12_init (mi 97 rfl) rfl rfl s47 (sh_k s47.2.1 0 rfl) s46.1 (sh_k s47.2.1 24 rfl) (by decide) (by decide) (fun h48 s48 z48 => ?_)
  refine ex_aload_n ok_X12_init (mi 98 rfl) rfl ?_
  refine ex_iconst ok_X12_init (mi 99 rfl) ?_
  refine ex_newa (N := 3) ok_X12_init (mi 100 rfl) (Or.inl ⟨rfl, rfl⟩) (by decide) (by decide) (by decide) hw_I (by omega) (by omega) ?_
  have s49 := ST_N (k := 50) (l := 3) s48
  have z49 := ZA_N (k := 50) (l := 3) s48.1 z48
  refine ST_putMz z49 (t := 25) ok_X12_init (mi 101 rfl) rfl rfl s49 (sh_k s49.2.1 0 rfl) s48.1 (sh_k s49.2.1 25 rfl) (by decide) (by decide) (fun h50 s50 z50 => ?_)
  refine ex_aload_n ok_X12_init (mi 102 rfl) rfl ?_
  refine ex_iconst ok_X12_init (mi 103 rfl) ?_
  refine ex_newa (N := 3) ok_X12_init (mi 104 rfl) (Or.inl ⟨rfl, rfl⟩) (by decide) (by decide) (by decide) hw_I (by omega) (by omega) ?_
  have s51 := ST_N (k := 50) (l := 3) s50
  have z51 := ZA_N (k := 50) (l := 3) s50.1 z50
  refine ST_putMz z51 (t := 26) ok_X12_init (mi 105 rfl) rfl rfl s51 (sh_k s51.2.1 0 rfl) s50.1 (sh_k s51.2.1 26 rfl) (by decide) (by decide) (fun h52 s52 z52 => ?_)
  refine ex_aload_n ok_X12_init (mi 106 rfl) rfl ?_
  refine ex_iconst ok_X12_init (mi 107 rfl) ?_
  refine ex_newa (N := 3) ok_X12_init (mi 108 rfl) (Or.inl ⟨rfl, rfl⟩) (by decide) (by decide) (by decide) hw_I (by omega) (by omega) ?_
  have s53 := ST_N (k := 50) (l := 3) s52
  have z53 := ZA_N (k := 50) (l := 3) s52.1 z52
  refine ST_putMz z53 (t := 27) ok_X12_init (mi 109 rfl) rfl rfl s53 (sh_k s53.2.1 0 rfl) s52.1 (sh_k s53.2.1 27 rfl) (by decide) (by decide) (fun h54 s54 z54 => ?_)
  refine ex_aload_n ok_X12_init (mi 110 rfl) rfl ?_
  refine ex_iconst ok_X12_init (mi 111 rfl) ?_
  refine ex_newa (N := 3) ok_X12_init (mi 112 rfl) (Or.inl ⟨rfl, rfl⟩) (by decide) (by decide) (by decide) hw_I (by omega) (by omega) ?_
  have s55 := ST_N (k := 50) (l := 3) s54
  have z55 := ZA_N (k := 50) (l := 3) s54.1 z54
  refine ST_putMz z55 (t := 28) ok_X12_init (mi 113 rfl) rfl rfl s55 (sh_k s55.2.1 0 rfl) s54.1 (sh_k s55.2.1 28 rfl) (by decide) (by decide) (fun h56 s56 z56 => ?_)
  refine ex_aload_n ok_X12_init (mi 114 rfl) rfl ?_
  refine ex_iconst ok_X12_init (mi 115 rfl) ?_
  refine ex_newa (N := 3) ok_X12_init (mi 116 rfl) (Or.inl ⟨rfl, rfl⟩) (by decide) (by decide) (by decide) hw_I (by omega) (by omega) ?_
  have s57 := ST_N (k := 50) (l := 3) s56
  have z57 := ZA_N (k := 50) (l := 3) s56.1 z56
  refine ST_putMz z57 (t := 29) ok_X12_init (mi 117 rfl) rfl rfl s57 (sh_k s57.2.1 0 rfl) s56.1 (sh_k s57.2.1 29 rfl) (by decide) (by decide) (fun h58 s58 z58 => ?_)
  have s58 : ST g h58 x 30 0 ([(0, 13, 0), (1, 52, 27), (2, 50, 3), (3, 50, 3), (4, 50, 3), (5, 50, 3), (6, 50, 3), (7, 50, 3), (8, 50, 3), (9, 50, 900), (10, 50, 3), (11, 50, 3), (12, 50, 48), (13, 50, 48), (14, 50, 3), (15, 50, 3), (16, 50, 48), (17, 50, 48), (18, 50, 48), (19, 50, 48), (20, 50, 3), (21, 50, 3), (22, 50, 3), (23, 50, 3), (24, 50, 3), (25, 50, 3), (26, 50, 3), (27, 50, 3), (28, 50, 3), (29, 50, 3)], [(0, 1201, 1), (0, 1202, 2), (0, 1203, 3), (0, 1204, 4), (0, 1205, 5), (0, 1206, 6), (0, 1207, 7), (0, 1208, 8), (0, 1209, 9), (0, 1210, 10), (0, 1211, 11), (0, 1212, 12), (0, 1213, 13), (0, 1214, 14), (0, 1215, 15), (0, 1216, 16), (0, 1217, 17), (0, 1218, 18), (0, 1219, 19), (0, 1220, 20), (0, 1221, 21), (0, 1222, 22), (0, 1223, 23), (0, 1224, 24), (0, 1225, 25), (0, 1226, 26), (0, 1227, 27), (0, 1228, 28), (0, 1229, 29)]) [] [] := s58
  refine ex_aload_n ok_X12_init (mi 118 rfl) rfl ?_
  refine ex_iconst ok_X12_init (mi 119 rfl) ?_
  refine ex_newa (N := 3) ok_X12_init (mi 120 rfl) (Or.inl ⟨rfl, rfl⟩) (by decide) (by decide) (by decide) hw_I (by omega) (by omega) ?_
  have s59 := ST_N (k := 50) (l := 3) s58
  have z59 := ZA_N (k := 50) (l := 3) s58.1 z58
  refine ST_putMz z59 (t := 30) ok_X12_init (mi 121 rfl) rfl rfl s59 (sh_k s59.2.1 0 rfl) s58.1 (sh_k s59.2.1 30 rfl) (by decide) (by decide) (fun h60 s60 z60 => ?_)
  refine ex_aload_n ok_X12_init (mi 122 rfl) rfl ?_
  refine ex_sipush ok_X12_init (mi 123 rfl) ?_
  refine ex_newa (N := 900) ok_X12_init (mi 124 rfl) (Or.inl ⟨rfl, rfl⟩) (by decide) (by decide) (by decide) hw_I (by omega) (by omega) ?_
  have s61 := ST_N (k := 50) (l := 900) s60
  have z61 := ZA_N (k := 50) (l := 900) s60.1 z60
  refine ST_putMz z61 (t := 31) ok_X12_init (mi 125 rfl) rfl rfl s61 (sh_k s61.2.1 0 rfl) s60.1 (sh_k s61.2.1 31 rfl) (by decide) (by decide) (fun h62 s62 z62 => ?_)
  refine ex_aload_n ok_X12_init (mi 126 rfl) rfl ?_
  refine ex_iconst ok_X12_init (mi 127 rfl) ?_
  refine ex_newa (N := 3) ok_X12_init (mi 128 rfl) (Or.inl ⟨rfl, rfl⟩) (by decide) (by decide) (by decide) hw_I (by omega) (by omega) ?_
  have s63 := ST_N (k := 50) (l := 3) s62
  have z63 := ZA_N (k := 50) (l := 3) s62.1 z62
  refine ST_putMz z63 (t := 32) ok_X12_init (mi 129 rfl) rfl rfl s63 (sh_k s63.2.1 0 rfl) s62.1 (sh_k s63.2.1 32 rfl) (by decide) (by decide) (fun h64 s64 z64 => ?_)
  refine ex_aload_n ok_X12_init (mi 130 rfl) rfl ?_
  refine ex_iconst ok_X12_init (mi 131 rfl) ?_
  refine ex_newa (N := 3) ok_X12_init (mi 132 rfl) (Or.inl ⟨rfl, rfl⟩) (by decide) (by decide) (by decide) hw_I (by omega) (by omega) ?_
  have s65 := ST_N (k := 50) (l := 3) s64
  have z65 := ZA_N (k := 50) (l := 3) s64.1 z64
  refine ST_putMz z65 (t := 33) ok_X12_init (mi 133 rfl) rfl rfl s65 (sh_k s65.2.1 0 rfl) s64.1 (sh_k s65.2.1 33 rfl) (by decide) (by decide) (fun h66 s66 z66 => ?_)
  refine ex_aload_n ok_X12_init (mi 134 rfl) rfl ?_
  refine ex_bipush ok_X12_init (mi 135 rfl) ?_
  refine ex_newa (N := 9) ok_X12_init (mi 136 rfl) (Or.inl ⟨rfl, rfl⟩) (by decide) (by decide) (by decide) hw_I (by omega) (by omega) ?_
  have s67 := ST_N (k := 50) (l := 9) s66
  have z67 := ZA_N (k := 50) (l := 9) s66.1 z66
  refine ST_putMz z67 (t := 34) ok_X12_init (mi 137 rfl) rfl rfl s67 (sh_k s67.2.1 0 rfl) s66.1 (sh_k s67.2.1 34 rfl) (by decide) (by decide) (fun h68 s68 z68 => ?_)
  refine ex_aload_n ok_X12_init (mi 138 rfl) rfl ?_
  refine ex_bipush ok_X12_init (mi 139 rfl) ?_
  refine ex_newa (N := 9) ok_X12_init (mi 140 rfl) (Or.inl ⟨rfl, rfl⟩) (by decide) (by decide) (by decide) hw_I (by omega) (by omega) ?_
  have s69 := ST_N (k := 50) (l := 9) s68
  have z69 := ZA_N (k := 50) (l := 9) s68.1 z68
  refine ST_putMz z69 (t := 35) ok_X12_init (mi 141 rfl) rfl rfl s69 (sh_k s69.2.1 0 rfl) s68.1 (sh_k s69.2.1 35 rfl) (by decide) (by decide) (fun h70 s70 z70 => ?_)
  refine ex_aload_n ok_X12_init (mi 142 rfl) rfl ?_
  refine ex_bipush ok_X12_init (mi 143 rfl) ?_
  refine ex_newa (N := 9) ok_X12_init (mi 144 rfl) (Or.inl ⟨rfl, rfl⟩) (by decide) (by decide) (by decide) hw_I (by omega) (by omega) ?_
  have s71 := ST_N (k := 50) (l := 9) s70
  have z71 := ZA_N (k := 50) (l := 9) s70.1 z70
  refine ST_putMz z71 (t := 36) ok_X12_init (mi 145 rfl) rfl rfl s71 (sh_k s71.2.1 0 rfl) s70.1 (sh_k s71.2.1 36 rfl) (by decide) (by decide) (fun h72 s72 z72 => ?_)
  refine ex_aload_n ok_X12_init (mi 146 rfl) rfl ?_
  refine ex_bipush ok_X12_init (mi 147 rfl) ?_
  refine ex_newa (N := 9) ok_X12_init (mi 148 rfl) (Or.inl ⟨rfl, rfl⟩) (by decide) (by decide) (by decide) hw_I (by omega) (by omega) ?_
  have s73 := ST_N (k := 50) (l := 9) s72
  have z73 := ZA_N (k := 50) (l := 9) s72.1 z72
  refine ST_putMz z73 (t := 37) ok_X12_init (mi 149 rfl) rfl rfl s73 (sh_k s73.2.1 0 rfl) s72.1 (sh_k s73.2.1 37 rfl) (by decide) (by decide) (fun h74 s74 z74 => ?_)
  refine ex_aload_n ok_X12_init (mi 150 rfl) rfl ?_
  refine ex_sipush ok_X12_init (mi 151 rfl) ?_
  refine ex_newa (N := 2700) ok_X12_init (mi 152 rfl) (Or.inl ⟨rfl, rfl⟩) (by decide) (by decide) (by decide) hw_I (by omega) (by omega) ?_
  have s75 := ST_N (k := 50) (l := 2700) s74
  have z75 := ZA_N (k := 50) (l := 2700) s74.1 z74
  refine ST_putMz z75 (t := 38) ok_X12_init (mi 153 rfl) rfl rfl s75 (sh_k s75.2.1 0 rfl) s74.1 (sh_k s75.2.1 38 rfl) (by decide) (by decide) (fun h76 s76 z76 => ?_)
  refine ex_aload_n ok_X12_init (mi 154 rfl) rfl ?_
  refine ex_bipush ok_X12_init (mi 155 rfl) ?_
  refine ex_newa (N := 9) ok_X12_init (mi 156 rfl) (Or.inl ⟨rfl, rfl⟩) (by decide) (by decide) (by decide) hw_I (by omega) (by omega) ?_
  have s77 := ST_N (k := 50) (l := 9) s76
  have z77 := ZA_N (k := 50) (l := 9) s76.1 z76
  refine ST_putMz z77 (t := 39) ok_X12_init (mi 157 rfl) rfl rfl s77 (sh_k s77.2.1 0 rfl) s76.1 (sh_k s77.2.1 39 rfl) (by decide) (by decide) (fun h78 s78 z78 => ?_)
  have s78 : ST g h78 x 40 0 ([(0, 13, 0), (1, 52, 27), (2, 50, 3), (3, 50, 3), (4, 50, 3), (5, 50, 3), (6, 50, 3), (7, 50, 3), (8, 50, 3), (9, 50, 900), (10, 50, 3), (11, 50, 3), (12, 50, 48), (13, 50, 48), (14, 50, 3), (15, 50, 3), (16, 50, 48), (17, 50, 48), (18, 50, 48), (19, 50, 48), (20, 50, 3), (21, 50, 3), (22, 50, 3), (23, 50, 3), (24, 50, 3), (25, 50, 3), (26, 50, 3), (27, 50, 3), (28, 50, 3), (29, 50, 3), (30, 50, 3), (31, 50, 900), (32, 50, 3), (33, 50, 3), (34, 50, 9), (35, 50, 9), (36, 50, 9), (37, 50, 9), (38, 50, 2700), (39, 50, 9)], [(0, 1201, 1), (0, 1202, 2), (0, 1203, 3), (0, 1204, 4), (0, 1205, 5), (0, 1206, 6), (0, 1207, 7), (0, 1208, 8), (0, 1209, 9), (0, 1210, 10), (0, 1211, 11), (0, 1212, 12), (0, 1213, 13), (0, 1214, 14), (0, 1215, 15), (0, 1216, 16), (0, 1217, 17), (0, 1218, 18), (0, 1219, 19), (0, 1220, 20), (0, 1221, 21), (0, 1222, 22), (0, 1223, 23), (0, 1224, 24), (0, 1225, 25), (0, 1226, 26), (0, 1227, 27), (0, 1228, 28), (0, 1229, 29), (0, 1230, 30), (0, 1231, 31), (0, 1232, 32), (0, 1233, 33), (0, 1234, 34), (0, 1235, 35), (0, 1236, 36), (0, 1237, 37), (0, 1238, 38), (0, 1239, 39)]) [] [] := s78
  refine ex_aload_n ok_X12_init (mi 158 rfl) rfl ?_
  refine ex_bipush ok_X12_init (mi 159 rfl) ?_
  refine ex_newa (N := 9) ok_X12_init (mi 160 rfl) (Or.inl ⟨rfl, rfl⟩) (by decide) (by decide) (by decide) hw_I (by omega) (by omega) ?_
  have s79 := ST_N (k := 50) (l := 9) s78
  have z79 := ZA_N (k := 50) (l := 9) s78.1 z78
  refine ST_putMz z79 (t := 40) ok_X12_init (mi 161 rfl) rfl rfl s79 (sh_k s79.2.1 0 rfl) s78.1 (sh_k s79.2.1 40 rfl) (by decide) (by decide) (fun h80 s80 z80 => ?_)
  refine ex_aload_n ok_X12_init (mi 162 rfl) rfl ?_
  refine ex_bipush ok_X12_init (mi 163 rfl) ?_
  refine ex_newa (N := 9) ok_X12_init (mi 164 rfl) (Or.inl ⟨rfl, rfl⟩) (by decide) (by decide) (by decide) hw_I (by omega) (by omega) ?_
  have s81 := ST_N (k := 50) (l := 9) s80
  have z81 := ZA_N (k := 50) (l := 9) s80.1 z80
  refine ST_putMz z81 (t := 41) ok_X12_init (mi 165 rfl) rfl rfl s81 (sh_k s81.2.1 0 rfl) s80.1 (sh_k s81.2.1 41 rfl) (by decide) (by decide) (fun h82 s82 z82 => ?_)
  refine ex_aload_n ok_X12_init (mi 166 rfl) rfl ?_
  refine ex_bipush ok_X12_init (mi 167 rfl) ?_
  refine ex_newa (N := 9) ok_X12_init (mi 168 rfl) (Or.inl ⟨rfl, rfl⟩) (by decide) (by decide) (by decide) hw_I (by omega) (by omega) ?_
  have s83 := ST_N (k := 50) (l := 9) s82
  have z83 := ZA_N (k := 50) (l := 9) s82.1 z82
  refine ST_putMz z83 (t := 42) ok_X12_init (mi 169 rfl) rfl rfl s83 (sh_k s83.2.1 0 rfl) s82.1 (sh_k s83.2.1 42 rfl) (by decide) (by decide) (fun h84 s84 z84 => ?_)
  refine ex_aload_n ok_X12_init (mi 170 rfl) rfl ?_
  refine ex_bipush ok_X12_init (mi 171 rfl) ?_
  refine ex_newa (N := 12) ok_X12_init (mi 172 rfl) (Or.inl ⟨rfl, rfl⟩) (by decide) (by decide) (by decide) hw_I (by omega) (by omega) ?_
  have s85 := ST_N (k := 50) (l := 12) s84
  have z85 := ZA_N (k := 50) (l := 12) s84.1 z84
  refine ST_putMz z85 (t := 43) ok_X12_init (mi 173 rfl) rfl rfl s85 (sh_k s85.2.1 0 rfl) s84.1 (sh_k s85.2.1 43 rfl) (by decide) (by decide) (fun h86 s86 z86 => ?_)
  refine ex_aload_n ok_X12_init (mi 174 rfl) rfl ?_
  refine ex_bipush ok_X12_init (mi 175 rfl) ?_
  refine ex_newa (N := 12) ok_X12_init (mi 176 rfl) (Or.inl ⟨rfl, rfl⟩) (by decide) (by decide) (by decide) hw_I (by omega) (by omega) ?_
  have s87 := ST_N (k := 50) (l := 12) s86
  have z87 := ZA_N (k := 50) (l := 12) s86.1 z86
  refine ST_putMz z87 (t := 44) ok_X12_init (mi 177 rfl) rfl rfl s87 (sh_k s87.2.1 0 rfl) s86.1 (sh_k s87.2.1 44 rfl) (by decide) (by decide) (fun h88 s88 z88 => ?_)
  refine ex_aload_n ok_X12_init (mi 178 rfl) rfl ?_
  refine ex_sipush ok_X12_init (mi 179 rfl) ?_
  refine ex_newa (N := 192) ok_X12_init (mi 180 rfl) (Or.inl ⟨rfl, rfl⟩) (by decide) (by decide) (by decide) hw_I (by omega) (by omega) ?_
  have s89 := ST_N (k := 50) (l := 192) s88
  have z89 := ZA_N (k := 50) (l := 192) s88.1 z88
  refine ST_putMz z89 (t := 45) ok_X12_init (mi 181 rfl) rfl rfl s89 (sh_k s89.2.1 0 rfl) s88.1 (sh_k s89.2.1 45 rfl) (by decide) (by decide) (fun h90 s90 z90 => ?_)
  refine ex_aload_n ok_X12_init (mi 182 rfl) rfl ?_
  refine ex_sipush ok_X12_init (mi 183 rfl) ?_
  refine ex_newa (N := 192) ok_X12_init (mi 184 rfl) (Or.inl ⟨rfl, rfl⟩) (by decide) (by decide) (by decide) hw_I (by omega) (by omega) ?_
  have s91 := ST_N (k := 50) (l := 192) s90
  have z91 := ZA_N (k := 50) (l := 192) s90.1 z90
  refine ST_putMz z91 (t := 46) ok_X12_init (mi 185 rfl) rfl rfl s91 (sh_k s91.2.1 0 rfl) s90.1 (sh_k s91.2.1 46 rfl) (by decide) (by decide) (fun h92 s92 z92 => ?_)
  refine ex_aload_n ok_X12_init (mi 186 rfl) rfl ?_
  refine ex_bipush ok_X12_init (mi 187 rfl) ?_
  refine ex_newa (N := 48) ok_X12_init (mi 188 rfl) (Or.inl ⟨rfl, rfl⟩) (by decide) (by decide) (by decide) hw_I (by omega) (by omega) ?_
  have s93 := ST_N (k := 50) (l := 48) s92
  have z93 := ZA_N (k := 50) (l := 48) s92.1 z92
  refine ST_putMz z93 (t := 47) ok_X12_init (mi 189 rfl) rfl rfl s93 (sh_k s93.2.1 0 rfl) s92.1 (sh_k s93.2.1 47 rfl) (by decide) (by decide) (fun h94 s94 z94 => ?_)
  refine ex_aload_n ok_X12_init (mi 190 rfl) rfl ?_
  refine ex_sipush ok_X12_init (mi 191 rfl) ?_
  refine ex_newa (N := 400) ok_X12_init (mi 192 rfl) (Or.inl ⟨rfl, rfl⟩) (by decide) (by decide) (by decide) hw_I (by omega) (by omega) ?_
  have s95 := ST_N (k := 50) (l := 400) s94
  have z95 := ZA_N (k := 50) (l := 400) s94.1 z94
  refine ST_putMz z95 (t := 48) ok_X12_init (mi 193 rfl) rfl rfl s95 (sh_k s95.2.1 0 rfl) s94.1 (sh_k s95.2.1 48 rfl) (by decide) (by decide) (fun h96 s96 z96 => ?_)
  refine ex_aload_n ok_X12_init (mi 194 rfl) rfl ?_
  refine ex_sipush ok_X12_init (mi 195 rfl) ?_
  refine ex_newa (N := 402) ok_X12_init (mi 196 rfl) (Or.inr (Or.inr ⟨rfl, rfl⟩)) (by decide) (by decide) (by decide) hw_B (by omega) (by omega) ?_
  have s97 := ST_N (k := 52) (l := 402) s96
  have z97 := ZA_N (k := 52) (l := 402) s96.1 z96
  refine ST_putMz z97 (t := 49) ok_X12_init (mi 197 rfl) rfl rfl s97 (sh_k s97.2.1 0 rfl) s96.1 (sh_k s97.2.1 49 rfl) (by decide) (by decide) (fun h98 s98 z98 => ?_)
  have s98 : ST g h98 x 50 0 ([(0, 13, 0), (1, 52, 27), (2, 50, 3), (3, 50, 3), (4, 50, 3), (5, 50, 3), (6, 50, 3), (7, 50, 3), (8, 50, 3), (9, 50, 900), (10, 50, 3), (11, 50, 3), (12, 50, 48), (13, 50, 48), (14, 50, 3), (15, 50, 3), (16, 50, 48), (17, 50, 48), (18, 50, 48), (19, 50, 48), (20, 50, 3), (21, 50, 3), (22, 50, 3), (23, 50, 3), (24, 50, 3), (25, 50, 3), (26, 50, 3), (27, 50, 3), (28, 50, 3), (29, 50, 3), (30, 50, 3), (31, 50, 900), (32, 50, 3), (33, 50, 3), (34, 50, 9), (35, 50, 9), (36, 50, 9), (37, 50, 9), (38, 50, 2700), (39, 50, 9), (40, 50, 9), (41, 50, 9), (42, 50, 9), (43, 50, 12), (44, 50, 12), (45, 50, 192), (46, 50, 192), (47, 50, 48), (48, 50, 400), (49, 52, 402)], [(0, 1201, 1), (0, 1202, 2), (0, 1203, 3), (0, 1204, 4), (0, 1205, 5), (0, 1206, 6), (0, 1207, 7), (0, 1208, 8), (0, 1209, 9), (0, 1210, 10), (0, 1211, 11), (0, 1212, 12), (0, 1213, 13), (0, 1214, 14), (0, 1215, 15), (0, 1216, 16), (0, 1217, 17), (0, 1218, 18), (0, 1219, 19), (0, 1220, 20), (0, 1221, 21), (0, 1222, 22), (0, 1223, 23), (0, 1224, 24), (0, 1225, 25), (0, 1226, 26), (0, 1227, 27), (0, 1228, 28), (0, 1229, 29), (0, 1230, 30), (0, 1231, 31), (0, 1232, 32), (0, 1233, 33), (0, 1234, 34), (0, 1235, 35), (0, 1236, 36), (0, 1237, 37), (0, 1238, 38), (0, 1239, 39), (0, 1240, 40), (0, 1241, 41), (0, 1242, 42), (0, 1243, 43), (0, 1244, 44), (0, 1245, 45), (0, 1246, 46), (0, 1247, 47), (0, 1249, 48), (0, 1250, 49)]) [] [] := s98
  refine ex_aload_n ok_X12_init (mi 198 rfl) rfl ?_
  refine ex_sipush ok_X12_init (mi 199 rfl) ?_
  refine ex_newa (N := 402) ok_X12_init (mi 200 rfl) (Or.inl ⟨rfl, rfl⟩) (by decide) (by decide) (by decide) hw_I (by omega) (by omega) ?_
  have s99 := ST_N (k := 50) (l := 402) s98
  have z99 := ZA_N (k := 50) (l := 402) s98.1 z98
  refine ST_putMz z99 (t := 50) ok_X12_init (mi 201 rfl) rfl rfl s99 (sh_k s99.2.1 0 rfl) s98.1 (sh_k s99.2.1 50 rfl) (by decide) (by decide) (fun h100 s100 z100 => ?_)
  refine ex_aload_n ok_X12_init (mi 202 rfl) rfl ?_
  refine ex_sipush ok_X12_init (mi 203 rfl) ?_
  refine ex_newa (N := 402) ok_X12_init (mi 204 rfl) (Or.inl ⟨rfl, rfl⟩) (by decide) (by decide) (by decide) hw_I (by omega) (by omega) ?_
  have s101 := ST_N (k := 50) (l := 402) s100
  have z101 := ZA_N (k := 50) (l := 402) s100.1 z100
  refine ST_putMz z101 (t := 51) ok_X12_init (mi 205 rfl) rfl rfl s101 (sh_k s101.2.1 0 rfl) s100.1 (sh_k s101.2.1 51 rfl) (by decide) (by decide) (fun h102 s102 z102 => ?_)
  refine ex_aload_n ok_X12_init (mi 206 rfl) rfl ?_
  refine ex_sipush ok_X12_init (mi 207 rfl) ?_
  refine ex_newa (N := 402) ok_X12_init (mi 208 rfl) (Or.inl ⟨rfl, rfl⟩) (by decide) (by decide) (by decide) hw_I (by omega) (by omega) ?_
  have s103 := ST_N (k := 50) (l := 402) s102
  have z103 := ZA_N (k := 50) (l := 402) s102.1 z102
  refine ST_putMz z103 (t := 52) ok_X12_init (mi 209 rfl) rfl rfl s103 (sh_k s103.2.1 0 rfl) s102.1 (sh_k s103.2.1 52 rfl) (by decide) (by decide) (fun h104 s104 z104 => ?_)
  refine ex_aload_n ok_X12_init (mi 210 rfl) rfl ?_
  refine ex_sipush ok_X12_init (mi 211 rfl) ?_
  refine ex_newa (N := 1206) ok_X12_init (mi 212 rfl) (Or.inl ⟨rfl, rfl⟩) (by decide) (by decide) (by decide) hw_I (by omega) (by omega) ?_
  have s105 := ST_N (k := 50) (l := 1206) s104
  have z105 := ZA_N (k := 50) (l := 1206) s104.1 z104
  refine ST_putMz z105 (t := 53) ok_X12_init (mi 213 rfl) rfl rfl s105 (sh_k s105.2.1 0 rfl) s104.1 (sh_k s105.2.1 53 rfl) (by decide) (by decide) (fun h106 s106 z106 => ?_)
  refine ex_aload_n ok_X12_init (mi 214 rfl) rfl ?_
  refine ex_sipush ok_X12_init (mi 215 rfl) ?_
  refine ex_newa (N := 402) ok_X12_init (mi 216 rfl) (Or.inl ⟨rfl, rfl⟩) (by decide) (by decide) (by decide) hw_I (by omega) (by omega) ?_
  have s107 := ST_N (k := 50) (l := 402) s106
  have z107 := ZA_N (k := 50) (l := 402) s106.1 z106
  refine ST_putMz z107 (t := 54) ok_X12_init (mi 217 rfl) rfl rfl s107 (sh_k s107.2.1 0 rfl) s106.1 (sh_k s107.2.1 54 rfl) (by decide) (by decide) (fun h108 s108 z108 => ?_)
  refine ex_aload_n ok_X12_init (mi 218 rfl) rfl ?_
  refine ex_sipush ok_X12_init (mi 219 rfl) ?_
  refine ex_newa (N := 804) ok_X12_init (mi 220 rfl) (Or.inl ⟨rfl, rfl⟩) (by decide) (by decide) (by decide) hw_I (by omega) (by omega) ?_
  have s109 := ST_N (k := 50) (l := 804) s108
  have z109 := ZA_N (k := 50) (l := 804) s108.1 z108
  refine ST_putMz z109 (t := 55) ok_X12_init (mi 221 rfl) rfl rfl s109 (sh_k s109.2.1 0 rfl) s108.1 (sh_k s109.2.1 55 rfl) (by decide) (by decide) (fun h110 s110 z110 => ?_)
  refine ex_aload_n ok_X12_init (mi 222 rfl) rfl ?_
  refine ex_ldc ok_X12_init (mi 223 rfl) rfl ?_
  refine ex_newa (N := 241200) ok_X12_init (mi 224 rfl) (Or.inl ⟨rfl, rfl⟩) (by decide) (by decide) (by decide) hw_I (by omega) (by omega) ?_
  have s111 := ST_N (k := 50) (l := 241200) s110
  have z111 := ZA_N (k := 50) (l := 241200) s110.1 z110
  refine ST_putMz z111 (t := 56) ok_X12_init (mi 225 rfl) rfl rfl s111 (sh_k s111.2.1 0 rfl) s110.1 (sh_k s111.2.1 56 rfl) (by decide) (by decide) (fun h112 s112 z112 => ?_)
  refine ex_aload_n ok_X12_init (mi 226 rfl) rfl ?_
  refine ex_sipush ok_X12_init (mi 227 rfl) ?_
  refine ex_newa (N := 300) ok_X12_init (mi 228 rfl) (Or.inl ⟨rfl, rfl⟩) (by decide) (by decide) (by decide) hw_I (by omega) (by omega) ?_
  have s113 := ST_N (k := 50) (l := 300) s112
  have z113 := ZA_N (k := 50) (l := 300) s112.1 z112
  refine ST_putMz z113 (t := 57) ok_X12_init (mi 229 rfl) rfl rfl s113 (sh_k s113.2.1 0 rfl) s112.1 (sh_k s113.2.1 57 rfl) (by decide) (by decide) (fun h114 s114 z114 => ?_)
  refine ex_aload_n ok_X12_init (mi 230 rfl) rfl ?_
  refine ex_sipush ok_X12_init (mi 231 rfl) ?_
  refine ex_newa (N := 4800) ok_X12_init (mi 232 rfl) (Or.inl ⟨rfl, rfl⟩) (by decide) (by decide) (by decide) hw_I (by omega) (by omega) ?_
  have s115 := ST_N (k := 50) (l := 4800) s114
  have z115 := ZA_N (k := 50) (l := 4800) s114.1 z114
  refine ST_putMz z115 (t := 58) ok_X12_init (mi 233 rfl) rfl rfl s115 (sh_k s115.2.1 0 rfl) s114.1 (sh_k s115.2.1 58 rfl) (by decide) (by decide) (fun h116 s116 z116 => ?_)
  refine ex_aload_n ok_X12_init (mi 234 rfl) rfl ?_
  refine ex_bipush ok_X12_init (mi 235 rfl) ?_
  refine ex_newa (N := 16) ok_X12_init (mi 236 rfl) (Or.inl ⟨rfl, rfl⟩) (by decide) (by decide) (by decide) hw_I (by omega) (by omega) ?_
  have s117 := ST_N (k := 50) (l := 16) s116
  have z117 := ZA_N (k := 50) (l := 16) s116.1 z116
  refine ST_putMz z117 (t := 59) ok_X12_init (mi 237 rfl) rfl rfl s117 (sh_k s117.2.1 0 rfl) s116.1 (sh_k s117.2.1 59 rfl) (by decide) (by decide) (fun h118 s118 z118 => ?_)
  have s118 : ST g h118 x 60 0 ([(0, 13, 0), (1, 52, 27), (2, 50, 3), (3, 50, 3), (4, 50, 3), (5, 50, 3), (6, 50, 3), (7, 50, 3), (8, 50, 3), (9, 50, 900), (10, 50, 3), (11, 50, 3), (12, 50, 48), (13, 50, 48), (14, 50, 3), (15, 50, 3), (16, 50, 48), (17, 50, 48), (18, 50, 48), (19, 50, 48), (20, 50, 3), (21, 50, 3), (22, 50, 3), (23, 50, 3), (24, 50, 3), (25, 50, 3), (26, 50, 3), (27, 50, 3), (28, 50, 3), (29, 50, 3), (30, 50, 3), (31, 50, 900), (32, 50, 3), (33, 50, 3), (34, 50, 9), (35, 50, 9), (36, 50, 9), (37, 50, 9), (38, 50, 2700), (39, 50, 9), (40, 50, 9), (41, 50, 9), (42, 50, 9), (43, 50, 12), (44, 50, 12), (45, 50, 192), (46, 50, 192), (47, 50, 48), (48, 50, 400), (49, 52, 402), (50, 50, 402), (51, 50, 402), (52, 50, 402), (53, 50, 1206), (54, 50, 402), (55, 50, 804), (56, 50, 241200), (57, 50, 300), (58, 50, 4800), (59, 50, 16)], [(0, 1201, 1), (0, 1202, 2), (0, 1203, 3), (0, 1204, 4), (0, 1205, 5), (0, 1206, 6), (0, 1207, 7), (0, 1208, 8), (0, 1209, 9), (0, 1210, 10), (0, 1211, 11), (0, 1212, 12), (0, 1213, 13), (0, 1214, 14), (0, 1215, 15), (0, 1216, 16), (0, 1217, 17), (0, 1218, 18), (0, 1219, 19), (0, 1220, 20), (0, 1221, 21), (0, 1222, 22), (0, 1223, 23), (0, 1224, 24), (0, 1225, 25), (0, 1226, 26), (0, 1227, 27), (0, 1228, 28), (0, 1229, 29), (0, 1230, 30), (0, 1231, 31), (0, 1232, 32), (0, 1233, 33), (0, 1234, 34), (0, 1235, 35), (0, 1236, 36), (0, 1237, 37), (0, 1238, 38), (0, 1239, 39), (0, 1240, 40), (0, 1241, 41), (0, 1242, 42), (0, 1243, 43), (0, 1244, 44), (0, 1245, 45), (0, 1246, 46), (0, 1247, 47), (0, 1249, 48), (0, 1250, 49), (0, 1251, 50), (0, 1252, 51), (0, 1253, 52), (0, 1254, 53), (0, 1255, 54), (0, 1256, 55), (0, 1257, 56), (0, 1259, 57), (0, 1260, 58), (0, 1261, 59)]) [] [] := s118
  exact hq _ s118 z118
theorem MI_new {x : Nat} {h : GT} (S : sh T12 h x) (z : ZA x 60 h) : MI x (fun _ => 0, h) 402 (fun _ => False) h := by
  have hA : ∀ o, o < 60 → ∀ j, gx_A h (x + o) j = 0 := fun o ho j => z.1 (x + o) (by omega) (by omega) j
  have v0 : ∀ n, vb (0 : Int32) n := fun n => by
    rw [show (0 : Int32) = Int32.ofInt 0 by decide]
    exact vb0 n
  refine ⟨0, by omega, z.2.trans (by decide), S, fun q hq i _ => ?_, fun l _ k => ?_, fun j hj _ => ⟨0, 0, by decide, ?_⟩, fun i _ => hA 1 (by decide) i, fun j _ k => absurd (hA 49 (by decide) j) k, KFm.refl⟩
  · rw [hA q.1 (Nat.blt_eq.mp (List.all_eq_true.mp (show BMt.all (fun q => q.1.blt 60) = true by decide) q hq))]
    exact vp_mono (n := 1) (pk_in 0 1 (by decide)) (of_decide_eq_true (List.all_eq_true.mp (show BMt.all (fun q => decide (1 ≤ q.2.2)) = true by decide) q hq))
  · exact (k.elim (fun k => k (hA 2 (by decide) l)) id).elim
  · refine ⟨?_, ?_, ?_, ?_, ?_, ?_, ?_, by decide, ?_, fun _ i hi => absurd hi (Nat.not_lt_zero _), fun _ i hi => absurd hi (Nat.not_lt_zero _)⟩
    · rw [hA 50 (by decide)]; decide
    · rw [hA 52 (by decide)]; exact v0 _
    · rw [hA 51 (by decide)]; exact v0 _
    · rw [hA 53 (by decide)]; exact v0 _
    · rw [hA 53 (by decide)]; exact v0 _
    · rw [hA 53 (by decide)]; exact v0 _
    · rw [hA 55 (by decide)]; exact v0 _
    · rw [hA 54 (by decide)]; decide
theorem n_X12_init {G : GE} (hst : (ge_l G).stackTraces = false) {x : Nat} {g : GT} (hk : gx_K g x = 13) (hn : gx_N g x = 0) (hz : gx_Z g = x + 1) (z : ZA x 1 g) : ex_M G 4 59 256151 my_X12_init [.ref x] g (fun r h' => r = .inl none ∧ ∃ h, MI x (fun _ => 0, h) 402 (fun _ => False) h' ∧ ∀ q, q < x → sm g h q) := by
  refine ex_M_of ok_X12_init cw_X12_init rfl hst (Nat.le_of_ble_eq_true rfl) ?_
  refine in_X12z hst hk hn hz z (fun h s z => ?_)
  refine ex_aload_n ok_X12_init (mi 238 rfl) rfl ?_
  refine sm_V (As := []) ok_X12_init (mi 239 rfl) rfl (s_X12_clear hst (fun _ k => k) (MI_new s.2.1 z)) rfl (fk s.2.1 0 rfl) rfl rfl (by decide) (by decide) (Nat.le_of_ble_eq_true rfl) (by decide) SM_no (fun v h' q => ?_)
  obtain ⟨u, e, p, I⟩ := q
  cases e
  obtain rfl : v = none := p
  refine ex_vret ok_X12_init (mi 240 rfl) rfl ?_
  exact ⟨rfl, h, I, s.2.2.2.2.2.2.2.2⟩
