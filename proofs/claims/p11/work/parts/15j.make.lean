/-! ===== RoundKeepers' constructor walked, up to its reset ===== -/
theorem lt_st {g0 h : GT} {x n m k : Nat} {T : List (Nat × Nat × Nat) × List (Nat × Nat × Nat)} {O : List (Nat × Nat × Nat)} {I : List (Nat × Nat × Int32)} (s : ST g0 h x n m T O I) (hk : k < n) : x + k < gx_Z h := by
  rw [s.1]; omega
def T11 : List (Nat × Nat × Nat) × List (Nat × Nat × Nat) := ([(0, 12, 0), (1, 1, 0), (2, 53, 400), (807, 50, 300), (808, 10, 0), (809, 51, 1200), (810, 50, 16), (811, 3, 0), (812, 50, 48), (813, 50, 4), (814, 54, 3), (815, 6, 0), (816, 50, 10), (817, 50, 16), (818, 5, 0), (819, 50, 10), (820, 9, 0), (821, 50, 16), (822, 50, 16), (823, 50, 16), (824, 50, 16), (825, 2, 0), (826, 6, 0), (827, 50, 10), (828, 50, 16), (829, 5, 0), (830, 50, 10), (831, 9, 0), (832, 50, 16), (833, 50, 16), (834, 50, 16), (835, 50, 16), (836, 2, 0), (837, 6, 0), (838, 50, 10), (839, 50, 16), (840, 5, 0), (841, 50, 10), (842, 9, 0), (843, 50, 16), (844, 50, 16), (845, 50, 16), (846, 50, 16), (847, 2, 0), (848, 55, 9), (849, 4, 0), (850, 50, 10), (851, 4, 0), (852, 50, 10), (853, 4, 0), (854, 50, 10), (855, 4, 0), (856, 50, 10), (857, 4, 0), (858, 50, 10), (859, 4, 0), (860, 50, 10), (861, 4, 0), (862, 50, 10), (863, 4, 0), (864, 50, 10), (865, 4, 0), (866, 50, 10), (867, 56, 12), (868, 11, 0), (869, 50, 16), (870, 11, 0), (871, 50, 16), (872, 11, 0), (873, 50, 16), (874, 11, 0), (875, 50, 16), (876, 11, 0), (877, 50, 16), (878, 11, 0), (879, 50, 16), (880, 11, 0), (881, 50, 16), (882, 11, 0), (883, 50, 16), (884, 11, 0), (885, 50, 16), (886, 11, 0), (887, 50, 16), (888, 11, 0), (889, 50, 16), (890, 11, 0), (891, 50, 16)], [(1, 0, 2), (1, 1, 803), (1, 2, 805), (0, 1100, 1), (0, 1101, 807), (808, 901, 809), (808, 902, 810), (808, 900, 807), (0, 1102, 808), (811, 201, 812), (811, 200, 1), (0, 1106, 811), (0, 1107, 813), (0, 1103, 814), (815, 503, 818), (815, 504, 820), (815, 505, 825), (815, 511, 816), (815, 514, 817), (818, 409, 819), (820, 802, 821), (820, 803, 822), (820, 804, 823), (820, 805, 824), (815, 501, 1), (815, 502, 807), (818, 401, 1), (820, 801, 1), (826, 503, 829), (826, 504, 831), (826, 505, 836), (826, 511, 827), (826, 514, 828), (829, 409, 830), (831, 802, 832), (831, 803, 833), (831, 804, 834), (831, 805, 835), (826, 501, 1), (826, 502, 807), (829, 401, 1), (831, 801, 1), (837, 503, 840), (837, 504, 842), (837, 505, 847), (837, 511, 838), (837, 514, 839), (840, 409, 841), (842, 802, 843), (842, 803, 844), (842, 804, 845), (842, 805, 846), (837, 501, 1), (837, 502, 807), (840, 401, 1), (842, 801, 1), (0, 1104, 848), (849, 307, 850), (849, 301, 1), (849, 302, 807), (851, 307, 852), (851, 301, 1), (851, 302, 807), (853, 307, 854), (853, 301, 1), (853, 302, 807), (855, 307, 856), (855, 301, 1), (855, 302, 807), (857, 307, 858), (857, 301, 1), (857, 302, 807), (859, 307, 860), (859, 301, 1), (859, 302, 807), (861, 307, 862), (861, 301, 1), (861, 302, 807), (863, 307, 864), (863, 301, 1), (863, 302, 807), (865, 307, 866), (865, 301, 1), (865, 302, 807), (0, 1105, 867), (868, 1005, 869), (868, 1001, 1), (868, 1002, 808), (870, 1005, 871), (870, 1001, 1), (870, 1002, 808), (872, 1005, 873), (872, 1001, 1), (872, 1002, 808), (874, 1005, 875), (874, 1001, 1), (874, 1002, 808), (876, 1005, 877), (876, 1001, 1), (876, 1002, 808), (878, 1005, 879), (878, 1001, 1), (878, 1002, 808), (880, 1005, 881), (880, 1001, 1), (880, 1002, 808), (882, 1005, 883), (882, 1001, 1), (882, 1002, 808), (884, 1005, 885), (884, 1001, 1), (884, 1002, 808), (886, 1005, 887), (886, 1001, 1), (886, 1002, 808), (888, 1005, 889), (888, 1001, 1), (888, 1002, 808), (890, 1005, 891), (890, 1001, 1), (890, 1002, 808)])
def O11 : List (Nat × Nat × Nat) := [(814, 0, 815), (814, 1, 826), (814, 2, 837), (848, 0, 849), (848, 1, 851), (848, 2, 853), (848, 3, 855), (848, 4, 857), (848, 5, 859), (848, 6, 861), (848, 7, 863), (848, 8, 865), (867, 0, 868), (867, 1, 870), (867, 2, 872), (867, 3, 874), (867, 4, 876), (867, 5, 878), (867, 6, 880), (867, 7, 882), (867, 8, 884), (867, 9, 886), (867, 10, 888), (867, 11, 890)]
def I11 : List (Nat × Nat × Int32) := [(815, 500, nI 0), (818, 400, nI 0), (820, 800, nI 0), (826, 500, nI 1), (829, 400, nI 1), (831, 800, nI 1), (837, 500, nI 2), (840, 400, nI 2), (842, 800, nI 2), (849, 300, nI 0), (851, 300, nI 1), (853, 300, nI 2), (855, 300, nI 3), (857, 300, nI 4), (859, 300, nI 5), (861, 300, nI 6), (863, 300, nI 7), (865, 300, nI 8), (868, 1000, nI 0), (870, 1000, nI 1), (872, 1000, nI 2), (874, 1000, nI 3), (876, 1000, nI 4), (878, 1000, nI 5), (880, 1000, nI 6), (882, 1000, nI 7), (884, 1000, nI 8), (886, 1000, nI 9), (888, 1000, nI 10), (890, 1000, nI 11)]
theorem in_X11 {G : GE} (hst : (ge_l G).stackTraces = false) {x : Nat} {g : GT} {Q : RT → GT → Prop} (hk : gx_K g x = 12) (hn : gx_N g x = 0) (hz : gx_Z g = x + 1) (hq : ∀ h, ST g h x 892 402 T11 O11 I11 → ex_W G 8 0 0 M2_X11_init 194 [(0, .ref x), (1, .int (nI 12))] [] h Q) : ex_W G 8 891 12942 M2_X11_init 0 [(0, .ref x)] [] g Q := by
  have s0 : ST g g x 1 0 ([(0, 12, 0)], []) [] [] := ⟨hz, ⟨fun q hq => by
      obtain rfl := List.mem_singleton.mp hq
      exact ⟨hk, hn⟩, (fun q hq => nomatch hq)⟩, (fun q hq => nomatch hq), (fun q hq => nomatch hq), ⟨by decide, by decide, by decide, by decide, by decide⟩, Or.inl rfl, fun j hj => absurd hj (Nat.not_lt_zero _), fun j hj => absurd hj (Nat.not_lt_zero _), fun q _ => sm.refl⟩
  refine ex_aload_n ok2_X11_init (mi 0 rfl) rfl ?_
  refine ex_objInit ok2_X11_init (mi 1 rfl) rfl (Nat.le_of_ble_eq_true rfl) ?_
  refine ex_aload_n ok2_X11_init (mi 2 rfl) rfl ?_
  refine ex_new ok2_X11_init (mi 3 rfl) rfl (by decide) (by omega) (by rw [show cx_N 0 = 7 from rfl]; omega) ?_
  rw [show cx_N 0 = 7 from rfl]
  refine ex_dup ok2_X11_init (mi 4 rfl) rfl ?_
  refine ex_callIp ok2_X11_init (mi 5 rfl) rfl (m_X0_init hst kNew zNew) rfl rfl rfl rfl (by decide) (Nat.le_of_ble_eq_true rfl) ⟨by omega, by omega⟩ (fun h1 e1 => ?_)
  have s1 := ST_air s0 e1
  refine ST_put (t := 1) ok2_X11_init (mi 6 rfl) rfl rfl s1 (sh_k s1.2.1 0 rfl) s0.1 (sh_k s1.2.1 1 rfl) (by decide) (by decide) (fun h2 s2 => ?_)
  refine ex_aload_n ok2_X11_init (mi 7 rfl) rfl ?_
  refine ex_sipush ok2_X11_init (mi 8 rfl) ?_
  refine ex_newa (N := 300) ok2_X11_init (mi 9 rfl) (Or.inl ⟨rfl, rfl⟩) (by decide) (by decide) (by decide) hw_I (by omega) (by omega) ?_
  have s3 := ST_N (k := 50) (l := 300) s2
  refine ST_put (t := 807) ok2_X11_init (mi 10 rfl) rfl rfl s3 (sh_k s3.2.1 0 rfl) s2.1 (sh_k s3.2.1 3 rfl) (by decide) (by decide) (fun h4 s4 => ?_)
  refine ex_aload_n ok2_X11_init (mi 11 rfl) rfl ?_
  refine ex_new ok2_X11_init (mi 12 rfl) rfl (by decide) (by omega) (by rw [show cx_N 9 = 5 from rfl]; omega) ?_
  rw [show cx_N 9 = 5 from rfl]
  refine ex_dup ok2_X11_init (mi 13 rfl) rfl ?_
  refine ex_aload_n ok2_X11_init (mi 14 rfl) rfl ?_
  have s5 := ST_N (k := 10) (l := 0) s4
  refine ex_getRx ok2_X11_init (mi 15 rfl) rfl rfl (sh_k s5.2.1 0 rfl) (sh_r s5.2.1 4 rfl) (sh_k s5.2.1 3 rfl) (by decide) ?_
  refine ex_callIp ok2_X11_init (mi 16 rfl) rfl (m_X9_init (groups := x + 807) hst kNew zNew (sh_k s5.2.1 3 rfl) (lt_st s5 (by decide))) rfl rfl rfl rfl (by decide) (Nat.le_of_ble_eq_true rfl) ⟨by omega, by omega⟩ (fun h6 e6 => ?_)
  have s6 := ST_tally (gp := 807) s4 e6
  refine ST_put (t := 808) ok2_X11_init (mi 17 rfl) rfl rfl s6 (sh_k s6.2.1 0 rfl) s4.1 (sh_k s6.2.1 4 rfl) (by decide) (by decide) (fun h7 s7 => ?_)
  refine ex_aload_n ok2_X11_init (mi 18 rfl) rfl ?_
  refine ex_new ok2_X11_init (mi 19 rfl) rfl (by decide) (by omega) (by rw [show cx_N 2 = 3 from rfl]; omega) ?_
  rw [show cx_N 2 = 3 from rfl]
  refine ex_dup ok2_X11_init (mi 20 rfl) rfl ?_
  refine ex_aload_n ok2_X11_init (mi 21 rfl) rfl ?_
  have s8 := ST_N (k := 3) (l := 0) s7
  refine ex_getRx ok2_X11_init (mi 22 rfl) rfl rfl (sh_k s8.2.1 0 rfl) (sh_r s8.2.1 3 rfl) (sh_k s8.2.1 1 rfl) (by decide) ?_
  refine ex_callIp ok2_X11_init (mi 23 rfl) rfl (m_X2_init (air := x + 1) hst kNew zNew (sh_k s8.2.1 1 rfl) (lt_st s8 (by decide))) rfl rfl rfl rfl (by decide) (Nat.le_of_ble_eq_true rfl) ⟨by omega, by omega⟩ (fun h9 e9 => ?_)
  have s9 := ST_copies (ar := 1) s7 e9
  refine ST_put (t := 811) ok2_X11_init (mi 24 rfl) rfl rfl s9 (sh_k s9.2.1 0 rfl) s7.1 (sh_k s9.2.1 7 rfl) (by decide) (by decide) (fun h10 s10 => ?_)
  refine ex_aload_n ok2_X11_init (mi 25 rfl) rfl ?_
  refine ex_iconst ok2_X11_init (mi 26 rfl) ?_
  refine ex_newa (N := 4) ok2_X11_init (mi 27 rfl) (Or.inl ⟨rfl, rfl⟩) (by decide) (by decide) (by decide) hw_I (by omega) (by omega) ?_
  have s11 := ST_N (k := 50) (l := 4) s10
  refine ST_put (t := 813) ok2_X11_init (mi 28 rfl) rfl rfl s11 (sh_k s11.2.1 0 rfl) s10.1 (sh_k s11.2.1 9 rfl) (by decide) (by decide) (fun h12 s12 => ?_)
  refine ex_aload_n ok2_X11_init (mi 29 rfl) rfl ?_
  refine ex_iconst ok2_X11_init (mi 30 rfl) ?_
  refine ex_anew2 (n := 1) (N := 3) ok2_X11_init (mi 31 rfl) rfl (by decide) (by decide) (by decide) (by decide) (by omega) (by omega) ?_
  have s13 := ST_N (k := 54) (l := 3) s12
  refine ST_put (t := 814) ok2_X11_init (mi 32 rfl) rfl rfl s13 (sh_k s13.2.1 0 rfl) s12.1 (sh_k s13.2.1 10 rfl) (by decide) (by decide) (fun h14 s14 => ?_)
  refine ex_iconst ok2_X11_init (mi 33 rfl) ?_
  refine ex_istore_n ok2_X11_init (mi 34 rfl) ?_
  refine ex_ls (ls' := [(0, .ref x), (1, .int (nI 0))]) ⟨rfl, rfl, trivial⟩ ?_
  refine ex_iload_n ok2_X11_init (mi 35 rfl) rfl ?_
  refine ex_iconst ok2_X11_init (mi 36 rfl) ?_
  refine ex_icmp_ge (tgt := 104) ok2_X11_init (mi 37 rfl) rfl (fun hc => absurd hc (by decide)) (fun _ => ?_)
  refine ex_aload_n ok2_X11_init (mi 38 rfl) rfl ?_
  refine ex_getRx ok2_X11_init (mi 39 rfl) rfl rfl (sh_k s14.2.1 0 rfl) (sh_r s14.2.1 13 rfl) (sh_k s14.2.1 10 rfl) (by decide) ?_
  refine ex_iload_n ok2_X11_init (mi 40 rfl) rfl ?_
  refine ex_new ok2_X11_init (mi 41 rfl) rfl (by decide) (by omega) (by rw [show cx_N 5 = 17 from rfl]; omega) ?_
  rw [show cx_N 5 = 17 from rfl]
  refine ex_dup ok2_X11_init (mi 42 rfl) rfl ?_
  refine ex_iload_n ok2_X11_init (mi 43 rfl) rfl ?_
  refine ex_aload_n ok2_X11_init (mi 44 rfl) rfl ?_
  have s15 := ST_N (k := 6) (l := 0) s14
  refine ex_getRx ok2_X11_init (mi 45 rfl) rfl rfl (sh_k s15.2.1 0 rfl) (sh_r s15.2.1 3 rfl) (sh_k s15.2.1 1 rfl) (by decide) ?_
  refine ex_aload_n ok2_X11_init (mi 46 rfl) rfl ?_
  refine ex_getRx ok2_X11_init (mi 47 rfl) rfl rfl (sh_k s15.2.1 0 rfl) (sh_r s15.2.1 4 rfl) (sh_k s15.2.1 3 rfl) (by decide) ?_
  refine ex_callIp ok2_X11_init (mi 48 rfl) rfl (m_X5_init (n := nI 0) (air := x + 1) (groups := x + 807) hst kNew zNew (sh_k s15.2.1 1 rfl) (lt_st s15 (by decide)) (sh_k s15.2.1 3 rfl) (lt_st s15 (by decide))) rfl rfl rfl rfl (by decide) (Nat.le_of_ble_eq_true rfl) ⟨by omega, by omega⟩ (fun h16 e16 => ?_)
  have s16 := ST_leader (i := 0) (ar := 1) (gp := 807) s14 e16
  refine ST_aast (n1 := 1) (i := 0) (t := 815) (a := 814) (N := 3) ok2_X11_init (mi 49 rfl) (by decide) s16 (sh_k s16.2.1 10 rfl) (sh_n s16.2.1 10 rfl) rfl (by decide) (by decide) s14.1 (sh_k s16.2.1 11 rfl) (by decide) (by decide) (by decide) (fun h17 s17 => ?_)
  refine ex_iinc ok2_X11_init (mi 50 rfl) rfl ?_
  refine ex_goto (tgt := 71) ok2_X11_init (mi 51 rfl) rfl ?_
  refine ex_ls (ls' := [(0, .ref x), (1, .int (nI (0 + 1)))]) ⟨rfl, by rw [nI_succ]; rfl, trivial⟩ ?_
  refine ex_iload_n ok2_X11_init (mi 35 rfl) rfl ?_
  refine ex_iconst ok2_X11_init (mi 36 rfl) ?_
  refine ex_icmp_ge (tgt := 104) ok2_X11_init (mi 37 rfl) rfl (fun hc => absurd hc (by decide)) (fun _ => ?_)
  refine ex_aload_n ok2_X11_init (mi 38 rfl) rfl ?_
  refine ex_getRx ok2_X11_init (mi 39 rfl) rfl rfl (sh_k s17.2.1 0 rfl) (sh_r s17.2.1 13 rfl) (sh_k s17.2.1 10 rfl) (by decide) ?_
  refine ex_iload_n ok2_X11_init (mi 40 rfl) rfl ?_
  refine ex_new ok2_X11_init (mi 41 rfl) rfl (by decide) (by omega) (by rw [show cx_N 5 = 17 from rfl]; omega) ?_
  rw [show cx_N 5 = 17 from rfl]
  refine ex_dup ok2_X11_init (mi 42 rfl) rfl ?_
  refine ex_iload_n ok2_X11_init (mi 43 rfl) rfl ?_
  refine ex_aload_n ok2_X11_init (mi 44 rfl) rfl ?_
  have s18 := ST_N (k := 6) (l := 0) s17
  refine ex_getRx ok2_X11_init (mi 45 rfl) rfl rfl (sh_k s18.2.1 0 rfl) (sh_r s18.2.1 3 rfl) (sh_k s18.2.1 1 rfl) (by decide) ?_
  refine ex_aload_n ok2_X11_init (mi 46 rfl) rfl ?_
  refine ex_getRx ok2_X11_init (mi 47 rfl) rfl rfl (sh_k s18.2.1 0 rfl) (sh_r s18.2.1 4 rfl) (sh_k s18.2.1 3 rfl) (by decide) ?_
  refine ex_callIp ok2_X11_init (mi 48 rfl) rfl (m_X5_init (n := nI (0 + 1)) (air := x + 1) (groups := x + 807) hst kNew zNew (sh_k s18.2.1 1 rfl) (lt_st s18 (by decide)) (sh_k s18.2.1 3 rfl) (lt_st s18 (by decide))) rfl rfl rfl rfl (by decide) (Nat.le_of_ble_eq_true rfl) ⟨by omega, by omega⟩ (fun h19 e19 => ?_)
  have s19 := ST_leader (i := (0 + 1)) (ar := 1) (gp := 807) s17 e19
  refine ST_aast (n1 := 1) (i := 1) (t := 826) (a := 814) (N := 3) ok2_X11_init (mi 49 rfl) (by decide) s19 (sh_k s19.2.1 10 rfl) (sh_n s19.2.1 10 rfl) rfl (by decide) (by decide) s17.1 (sh_k s19.2.1 22 rfl) (by decide) (by decide) (by decide) (fun h20 s20 => ?_)
  refine ex_iinc ok2_X11_init (mi 50 rfl) rfl ?_
  refine ex_goto (tgt := 71) ok2_X11_init (mi 51 rfl) rfl ?_
  refine ex_ls (ls' := [(0, .ref x), (1, .int (nI (1 + 1)))]) ⟨rfl, by rw [nI_succ]; rfl, trivial⟩ ?_
  refine ex_iload_n ok2_X11_init (mi 35 rfl) rfl ?_
  refine ex_iconst ok2_X11_init (mi 36 rfl) ?_
  refine ex_icmp_ge (tgt := 104) ok2_X11_init (mi 37 rfl) rfl (fun hc => absurd hc (by decide)) (fun _ => ?_)
  refine ex_aload_n ok2_X11_init (mi 38 rfl) rfl ?_
  refine ex_getRx ok2_X11_init (mi 39 rfl) rfl rfl (sh_k s20.2.1 0 rfl) (sh_r s20.2.1 13 rfl) (sh_k s20.2.1 10 rfl) (by decide) ?_
  refine ex_iload_n ok2_X11_init (mi 40 rfl) rfl ?_
  refine ex_new ok2_X11_init (mi 41 rfl) rfl (by decide) (by omega) (by rw [show cx_N 5 = 17 from rfl]; omega) ?_
  rw [show cx_N 5 = 17 from rfl]
  refine ex_dup ok2_X11_init (mi 42 rfl) rfl ?_
  refine ex_iload_n ok2_X11_init (mi 43 rfl) rfl ?_
  refine ex_aload_n ok2_X11_init (mi 44 rfl) rfl ?_
  have s21 := ST_N (k := 6) (l := 0) s20
  refine ex_getRx ok2_X11_init (mi 45 rfl) rfl rfl (sh_k s21.2.1 0 rfl) (sh_r s21.2.1 3 rfl) (sh_k s21.2.1 1 rfl) (by decide) ?_
  refine ex_aload_n ok2_X11_init (mi 46 rfl) rfl ?_
  refine ex_getRx ok2_X11_init (mi 47 rfl) rfl rfl (sh_k s21.2.1 0 rfl) (sh_r s21.2.1 4 rfl) (sh_k s21.2.1 3 rfl) (by decide) ?_
  refine ex_callIp ok2_X11_init (mi 48 rfl) rfl (m_X5_init (n := nI (1 + 1)) (air := x + 1) (groups := x + 807) hst kNew zNew (sh_k s21.2.1 1 rfl) (lt_st s21 (by decide)) (sh_k s21.2.1 3 rfl) (lt_st s21 (by decide))) rfl rfl rfl rfl (by decide) (Nat.le_of_ble_eq_true rfl) ⟨by omega, by omega⟩ (fun h22 e22 => ?_)
  have s22 := ST_leader (i := (1 + 1)) (ar := 1) (gp := 807) s20 e22
  refine ST_aast (n1 := 1) (i := 2) (t := 837) (a := 814) (N := 3) ok2_X11_init (mi 49 rfl) (by decide) s22 (sh_k s22.2.1 10 rfl) (sh_n s22.2.1 10 rfl) rfl (by decide) (by decide) s20.1 (sh_k s22.2.1 33 rfl) (by decide) (by decide) (by decide) (fun h23 s23 => ?_)
  refine ex_iinc ok2_X11_init (mi 50 rfl) rfl ?_
  refine ex_goto (tgt := 71) ok2_X11_init (mi 51 rfl) rfl ?_
  refine ex_ls (ls' := [(0, .ref x), (1, .int (nI (2 + 1)))]) ⟨rfl, by rw [nI_succ]; rfl, trivial⟩ ?_
  refine ex_iload_n ok2_X11_init (mi 35 rfl) rfl ?_
  refine ex_iconst ok2_X11_init (mi 36 rfl) ?_
  refine ex_icmp_ge (tgt := 104) ok2_X11_init (mi 37 rfl) rfl (fun _ => ?_) (fun hc => absurd (by decide) hc)
  refine ex_aload_n ok2_X11_init (mi 52 rfl) rfl ?_
  refine ex_bipush ok2_X11_init (mi 53 rfl) ?_
  refine ex_anew2 (n := 2) (N := 9) ok2_X11_init (mi 54 rfl) rfl (by decide) (by decide) (by decide) (by decide) (by omega) (by omega) ?_
  have s24 := ST_N (k := 55) (l := 9) s23
  refine ST_put (t := 848) ok2_X11_init (mi 55 rfl) rfl rfl s24 (sh_k s24.2.1 0 rfl) s23.1 (sh_k s24.2.1 44 rfl) (by decide) (by decide) (fun h25 s25 => ?_)
  refine ex_iconst ok2_X11_init (mi 56 rfl) ?_
  refine ex_istore_n ok2_X11_init (mi 57 rfl) ?_
  refine ex_ls (ls' := [(0, .ref x), (1, .int (nI 0))]) ⟨rfl, rfl, trivial⟩ ?_
  refine ex_iload_n ok2_X11_init (mi 58 rfl) rfl ?_
  refine ex_bipush ok2_X11_init (mi 59 rfl) ?_
  refine ex_icmp_ge (tgt := 149) ok2_X11_init (mi 60 rfl) rfl (fun hc => absurd hc (by decide)) (fun _ => ?_)
  refine ex_aload_n ok2_X11_init (mi 61 rfl) rfl ?_
  refine ex_getRx ok2_X11_init (mi 62 rfl) rfl rfl (sh_k s25.2.1 0 rfl) (sh_r s25.2.1 56 rfl) (sh_k s25.2.1 44 rfl) (by decide) ?_
  refine ex_iload_n ok2_X11_init (mi 63 rfl) rfl ?_
  refine ex_new ok2_X11_init (mi 64 rfl) rfl (by decide) (by omega) (by rw [show cx_N 3 = 12 from rfl]; omega) ?_
  rw [show cx_N 3 = 12 from rfl]
  refine ex_dup ok2_X11_init (mi 65 rfl) rfl ?_
  refine ex_iload_n ok2_X11_init (mi 66 rfl) rfl ?_
  refine ex_aload_n ok2_X11_init (mi 67 rfl) rfl ?_
  have s26 := ST_N (k := 4) (l := 0) s25
  refine ex_getRx ok2_X11_init (mi 68 rfl) rfl rfl (sh_k s26.2.1 0 rfl) (sh_r s26.2.1 3 rfl) (sh_k s26.2.1 1 rfl) (by decide) ?_
  refine ex_aload_n ok2_X11_init (mi 69 rfl) rfl ?_
  refine ex_getRx ok2_X11_init (mi 70 rfl) rfl rfl (sh_k s26.2.1 0 rfl) (sh_r s26.2.1 4 rfl) (sh_k s26.2.1 3 rfl) (by decide) ?_
  refine ex_callIp ok2_X11_init (mi 71 rfl) rfl (m_X3_init (n := nI 0) (air := x + 1) (groups := x + 807) hst kNew zNew (sh_k s26.2.1 1 rfl) (lt_st s26 (by decide)) (sh_k s26.2.1 3 rfl) (lt_st s26 (by decide))) rfl rfl rfl rfl (by decide) (Nat.le_of_ble_eq_true rfl) ⟨by omega, by omega⟩ (fun h27 e27 => ?_)
  have s27 := ST_keeper (i := 0) (ar := 1) (gp := 807) s25 e27
  refine ST_aast (n1 := 2) (i := 0) (t := 849) (a := 848) (N := 9) ok2_X11_init (mi 72 rfl) (by decide) s27 (sh_k s27.2.1 44 rfl) (sh_n s27.2.1 44 rfl) rfl (by decide) (by decide) s25.1 (sh_k s27.2.1 45 rfl) (by decide) (by decide) (by decide) (fun h28 s28 => ?_)
  refine ex_iinc ok2_X11_init (mi 73 rfl) rfl ?_
  refine ex_goto (tgt := 115) ok2_X11_init (mi 74 rfl) rfl ?_
  refine ex_ls (ls' := [(0, .ref x), (1, .int (nI (0 + 1)))]) ⟨rfl, by rw [nI_succ]; rfl, trivial⟩ ?_
  refine ex_iload_n ok2_X11_init (mi 58 rfl) rfl ?_
  refine ex_bipush ok2_X11_init (mi 59 rfl) ?_
  refine ex_icmp_ge (tgt := 149) ok2_X11_init (mi 60 rfl) rfl (fun hc => absurd hc (by decide)) (fun _ => ?_)
  refine ex_aload_n ok2_X11_init (mi 61 rfl) rfl ?_
  refine ex_getRx ok2_X11_init (mi 62 rfl) rfl rfl (sh_k s28.2.1 0 rfl) (sh_r s28.2.1 56 rfl) (sh_k s28.2.1 44 rfl) (by decide) ?_
  refine ex_iload_n ok2_X11_init (mi 63 rfl) rfl ?_
  refine ex_new ok2_X11_init (mi 64 rfl) rfl (by decide) (by omega) (by rw [show cx_N 3 = 12 from rfl]; omega) ?_
  rw [show cx_N 3 = 12 from rfl]
  refine ex_dup ok2_X11_init (mi 65 rfl) rfl ?_
  refine ex_iload_n ok2_X11_init (mi 66 rfl) rfl ?_
  refine ex_aload_n ok2_X11_init (mi 67 rfl) rfl ?_
  have s29 := ST_N (k := 4) (l := 0) s28
  refine ex_getRx ok2_X11_init (mi 68 rfl) rfl rfl (sh_k s29.2.1 0 rfl) (sh_r s29.2.1 3 rfl) (sh_k s29.2.1 1 rfl) (by decide) ?_
  refine ex_aload_n ok2_X11_init (mi 69 rfl) rfl ?_
  refine ex_getRx ok2_X11_init (mi 70 rfl) rfl rfl (sh_k s29.2.1 0 rfl) (sh_r s29.2.1 4 rfl) (sh_k s29.2.1 3 rfl) (by decide) ?_
  refine ex_callIp ok2_X11_init (mi 71 rfl) rfl (m_X3_init (n := nI (0 + 1)) (air := x + 1) (groups := x + 807) hst kNew zNew (sh_k s29.2.1 1 rfl) (lt_st s29 (by decide)) (sh_k s29.2.1 3 rfl) (lt_st s29 (by decide))) rfl rfl rfl rfl (by decide) (Nat.le_of_ble_eq_true rfl) ⟨by omega, by omega⟩ (fun h30 e30 => ?_)
  have s30 := ST_keeper (i := (0 + 1)) (ar := 1) (gp := 807) s28 e30
  refine ST_aast (n1 := 2) (i := 1) (t := 851) (a := 848) (N := 9) ok2_X11_init (mi 72 rfl) (by decide) s30 (sh_k s30.2.1 44 rfl) (sh_n s30.2.1 44 rfl) rfl (by decide) (by decide) s28.1 (sh_k s30.2.1 47 rfl) (by decide) (by decide) (by decide) (fun h31 s31 => ?_)
  refine ex_iinc ok2_X11_init (mi 73 rfl) rfl ?_
  refine ex_goto (tgt := 115) ok2_X11_init (mi 74 rfl) rfl ?_
  refine ex_ls (ls' := [(0, .ref x), (1, .int (nI (1 + 1)))]) ⟨rfl, by rw [nI_succ]; rfl, trivial⟩ ?_
  refine ex_iload_n ok2_X11_init (mi 58 rfl) rfl ?_
  refine ex_bipush ok2_X11_init (mi 59 rfl) ?_
  refine ex_icmp_ge (tgt := 149) ok2_X11_init (mi 60 rfl) rfl (fun hc => absurd hc (by decide)) (fun _ => ?_)
  refine ex_aload_n ok2_X11_init (mi 61 rfl) rfl ?_
  refine ex_getRx ok2_X11_init (mi 62 rfl) rfl rfl (sh_k s31.2.1 0 rfl) (sh_r s31.2.1 56 rfl) (sh_k s31.2.1 44 rfl) (by decide) ?_
  refine ex_iload_n ok2_X11_init (mi 63 rfl) rfl ?_
  refine ex_new ok2_X11_init (mi 64 rfl) rfl (by decide) (by omega) (by rw [show cx_N 3 = 12 from rfl]; omega) ?_
  rw [show cx_N 3 = 12 from rfl]
  refine ex_dup ok2_X11_init (mi 65 rfl) rfl ?_
  refine ex_iload_n ok2_X11_init (mi 66 rfl) rfl ?_
  refine ex_aload_n ok2_X11_init (mi 67 rfl) rfl ?_
  have s32 := ST_N (k := 4) (l := 0) s31
  refine ex_getRx ok2_X11_init (mi 68 rfl) rfl rfl (sh_k s32.2.1 0 rfl) (sh_r s32.2.1 3 rfl) (sh_k s32.2.1 1 rfl) (by decide) ?_
  refine ex_aload_n ok2_X11_init (mi 69 rfl) rfl ?_
  refine ex_getRx ok2_X11_init (mi 70 rfl) rfl rfl (sh_k s32.2.1 0 rfl) (sh_r s32.2.1 4 rfl) (sh_k s32.2.1 3 rfl) (by decide) ?_
  refine ex_callIp ok2_X11_init (mi 71 rfl) rfl (m_X3_init (n := nI (1 + 1)) (air := x + 1) (groups := x + 807) hst kNew zNew (sh_k s32.2.1 1 rfl) (lt_st s32 (by decide)) (sh_k s32.2.1 3 rfl) (lt_st s32 (by decide))) rfl rfl rfl rfl (by decide) (Nat.le_of_ble_eq_true rfl) ⟨by omega, by omega⟩ (fun h33 e33 => ?_)
  have s33 := ST_keeper (i := (1 + 1)) (ar := 1) (gp := 807) s31 e33
  refine ST_aast (n1 := 2) (i := 2) (t := 853) (a := 848) (N := 9) ok2_X11_init (mi 72 rfl) (by decide) s33 (sh_k s33.2.1 44 rfl) (sh_n s33.2.1 44 rfl) rfl (by decide) (by decide) s31.1 (sh_k s33.2.1 49 rfl) (by decide) (by decide) (by decide) (fun h34 s34 => ?_)
  refine ex_iinc ok2_X11_init (mi 73 rfl) rfl ?_
  refine ex_goto (tgt := 115) ok2_X11_init (mi 74 rfl) rfl ?_
  refine ex_ls (ls' := [(0, .ref x), (1, .int (nI (2 + 1)))]) ⟨rfl, by rw [nI_succ]; rfl, trivial⟩ ?_
  refine ex_iload_n ok2_X11_init (mi 58 rfl) rfl ?_
  refine ex_bipush ok2_X11_init (mi 59 rfl) ?_
  refine ex_icmp_ge (tgt := 149) ok2_X11_init (mi 60 rfl) rfl (fun hc => absurd hc (by decide)) (fun _ => ?_)
  refine ex_aload_n ok2_X11_init (mi 61 rfl) rfl ?_
  refine ex_getRx ok2_X11_init (mi 62 rfl) rfl rfl (sh_k s34.2.1 0 rfl) (sh_r s34.2.1 56 rfl) (sh_k s34.2.1 44 rfl) (by decide) ?_
  refine ex_iload_n ok2_X11_init (mi 63 rfl) rfl ?_
  refine ex_new ok2_X11_init (mi 64 rfl) rfl (by decide) (by omega) (by rw [show cx_N 3 = 12 from rfl]; omega) ?_
  rw [show cx_N 3 = 12 from rfl]
  refine ex_dup ok2_X11_init (mi 65 rfl) rfl ?_
  refine ex_iload_n ok2_X11_init (mi 66 rfl) rfl ?_
  refine ex_aload_n ok2_X11_init (mi 67 rfl) rfl ?_
  have s35 := ST_N (k := 4) (l := 0) s34
  refine ex_getRx ok2_X11_init (mi 68 rfl) rfl rfl (sh_k s35.2.1 0 rfl) (sh_r s35.2.1 3 rfl) (sh_k s35.2.1 1 rfl) (by decide) ?_
  refine ex_aload_n ok2_X11_init (mi 69 rfl) rfl ?_
  refine ex_getRx ok2_X11_init (mi 70 rfl) rfl rfl (sh_k s35.2.1 0 rfl) (sh_r s35.2.1 4 rfl) (sh_k s35.2.1 3 rfl) (by decide) ?_
  refine ex_callIp ok2_X11_init (mi 71 rfl) rfl (m_X3_init (n := nI (2 + 1)) (air := x + 1) (groups := x + 807) hst kNew zNew (sh_k s35.2.1 1 rfl) (lt_st s35 (by decide)) (sh_k s35.2.1 3 rfl) (lt_st s35 (by decide))) rfl rfl rfl rfl (by decide) (Nat.le_of_ble_eq_true rfl) ⟨by omega, by omega⟩ (fun h36 e36 => ?_)
  have s36 := ST_keeper (i := (2 + 1)) (ar := 1) (gp := 807) s34 e36
  refine ST_aast (n1 := 2) (i := 3) (t := 855) (a := 848) (N := 9) ok2_X11_init (mi 72 rfl) (by decide) s36 (sh_k s36.2.1 44 rfl) (sh_n s36.2.1 44 rfl) rfl (by decide) (by decide) s34.1 (sh_k s36.2.1 51 rfl) (by decide) (by decide) (by decide) (fun h37 s37 => ?_)
  refine ex_iinc ok2_X11_init (mi 73 rfl) rfl ?_
  refine ex_goto (tgt := 115) ok2_X11_init (mi 74 rfl) rfl ?_
  refine ex_ls (ls' := [(0, .ref x), (1, .int (nI (3 + 1)))]) ⟨rfl, by rw [nI_succ]; rfl, trivial⟩ ?_
  refine ex_iload_n ok2_X11_init (mi 58 rfl) rfl ?_
  refine ex_bipush ok2_X11_init (mi 59 rfl) ?_
  refine ex_icmp_ge (tgt := 149) ok2_X11_init (mi 60 rfl) rfl (fun hc => absurd hc (by decide)) (fun _ => ?_)
  refine ex_aload_n ok2_X11_init (mi 61 rfl) rfl ?_
  refine ex_getRx ok2_X11_init (mi 62 rfl) rfl rfl (sh_k s37.2.1 0 rfl) (sh_r s37.2.1 56 rfl) (sh_k s37.2.1 44 rfl) (by decide) ?_
  refine ex_iload_n ok2_X11_init (mi 63 rfl) rfl ?_
  refine ex_new ok2_X11_init (mi 64 rfl) rfl (by decide) (by omega) (by rw [show cx_N 3 = 12 from rfl]; omega) ?_
  rw [show cx_N 3 = 12 from rfl]
  refine ex_dup ok2_X11_init (mi 65 rfl) rfl ?_
  refine ex_iload_n ok2_X11_init (mi 66 rfl) rfl ?_
  refine ex_aload_n ok2_X11_init (mi 67 rfl) rfl ?_
  have s38 := ST_N (k := 4) (l := 0) s37
  refine ex_getRx ok2_X11_init (mi 68 rfl) rfl rfl (sh_k s38.2.1 0 rfl) (sh_r s38.2.1 3 rfl) (sh_k s38.2.1 1 rfl) (by decide) ?_
  refine ex_aload_n ok2_X11_init (mi 69 rfl) rfl ?_
  refine ex_getRx ok2_X11_init (mi 70 rfl) rfl rfl (sh_k s38.2.1 0 rfl) (sh_r s38.2.1 4 rfl) (sh_k s38.2.1 3 rfl) (by decide) ?_
  refine ex_callIp ok2_X11_init (mi 71 rfl) rfl (m_X3_init (n := nI (3 + 1)) (air := x + 1) (groups := x + 807) hst kNew zNew (sh_k s38.2.1 1 rfl) (lt_st s38 (by decide)) (sh_k s38.2.1 3 rfl) (lt_st s38 (by decide))) rfl rfl rfl rfl (by decide) (Nat.le_of_ble_eq_true rfl) ⟨by omega, by omega⟩ (fun h39 e39 => ?_)
  have s39 := ST_keeper (i := (3 + 1)) (ar := 1) (gp := 807) s37 e39
  refine ST_aast (n1 := 2) (i := 4) (t := 857) (a := 848) (N := 9) ok2_X11_init (mi 72 rfl) (by decide) s39 (sh_k s39.2.1 44 rfl) (sh_n s39.2.1 44 rfl) rfl (by decide) (by decide) s37.1 (sh_k s39.2.1 53 rfl) (by decide) (by decide) (by decide) (fun h40 s40 => ?_)
  refine ex_iinc ok2_X11_init (mi 73 rfl) rfl ?_
  refine ex_goto (tgt := 115) ok2_X11_init (mi 74 rfl) rfl ?_
  refine ex_ls (ls' := [(0, .ref x), (1, .int (nI (4 + 1)))]) ⟨rfl, by rw [nI_succ]; rfl, trivial⟩ ?_
  refine ex_iload_n ok2_X11_init (mi 58 rfl) rfl ?_
  refine ex_bipush ok2_X11_init (mi 59 rfl) ?_
  refine ex_icmp_ge (tgt := 149) ok2_X11_init (mi 60 rfl) rfl (fun hc => absurd hc (by decide)) (fun _ => ?_)
  refine ex_aload_n ok2_X11_init (mi 61 rfl) rfl ?_
  refine ex_getRx ok2_X11_init (mi 62 rfl) rfl rfl (sh_k s40.2.1 0 rfl) (sh_r s40.2.1 56 rfl) (sh_k s40.2.1 44 rfl) (by decide) ?_
  refine ex_iload_n ok2_X11_init (mi 63 rfl) rfl ?_
  refine ex_new ok2_X11_init (mi 64 rfl) rfl (by decide) (by omega) (by rw [show cx_N 3 = 12 from rfl]; omega) ?_
  rw [show cx_N 3 = 12 from rfl]
  refine ex_dup ok2_X11_init (mi 65 rfl) rfl ?_
  refine ex_iload_n ok2_X11_init (mi 66 rfl) rfl ?_
  refine ex_aload_n ok2_X11_init (mi 67 rfl) rfl ?_
  have s41 := ST_N (k := 4) (l := 0) s40
  refine ex_getRx ok2_X11_init (mi 68 rfl) rfl rfl (sh_k s41.2.1 0 rfl) (sh_r s41.2.1 3 rfl) (sh_k s41.2.1 1 rfl) (by decide) ?_
  refine ex_aload_n ok2_X11_init (mi 69 rfl) rfl ?_
  refine ex_getRx ok2_X11_init (mi 70 rfl) rfl rfl (sh_k s41.2.1 0 rfl) (sh_r s41.2.1 4 rfl) (sh_k s41.2.1 3 rfl) (by decide) ?_
  refine ex_callIp ok2_X11_init (mi 71 rfl) rfl (m_X3_init (n := nI (4 + 1)) (air := x + 1) (groups := x + 807) hst kNew zNew (sh_k s41.2.1 1 rfl) (lt_st s41 (by decide)) (sh_k s41.2.1 3 rfl) (lt_st s41 (by decide))) rfl rfl rfl rfl (by decide) (Nat.le_of_ble_eq_true rfl) ⟨by omega, by omega⟩ (fun h42 e42 => ?_)
  have s42 := ST_keeper (i := (4 + 1)) (ar := 1) (gp := 807) s40 e42
  refine ST_aast (n1 := 2) (i := 5) (t := 859) (a := 848) (N := 9) ok2_X11_init (mi 72 rfl) (by decide) s42 (sh_k s42.2.1 44 rfl) (sh_n s42.2.1 44 rfl) rfl (by decide) (by decide) s40.1 (sh_k s42.2.1 55 rfl) (by decide) (by decide) (by decide) (fun h43 s43 => ?_)
  refine ex_iinc ok2_X11_init (mi 73 rfl) rfl ?_
  refine ex_goto (tgt := 115) ok2_X11_init (mi 74 rfl) rfl ?_
  refine ex_ls (ls' := [(0, .ref x), (1, .int (nI (5 + 1)))]) ⟨rfl, by rw [nI_succ]; rfl, trivial⟩ ?_
  refine ex_iload_n ok2_X11_init (mi 58 rfl) rfl ?_
  refine ex_bipush ok2_X11_init (mi 59 rfl) ?_
  refine ex_icmp_ge (tgt := 149) ok2_X11_init (mi 60 rfl) rfl (fun hc => absurd hc (by decide)) (fun _ => ?_)
  refine ex_aload_n ok2_X11_init (mi 61 rfl) rfl ?_
  refine ex_getRx ok2_X11_init (mi 62 rfl) rfl rfl (sh_k s43.2.1 0 rfl) (sh_r s43.2.1 56 rfl) (sh_k s43.2.1 44 rfl) (by decide) ?_
  refine ex_iload_n ok2_X11_init (mi 63 rfl) rfl ?_
  refine ex_new ok2_X11_init (mi 64 rfl) rfl (by decide) (by omega) (by rw [show cx_N 3 = 12 from rfl]; omega) ?_
  rw [show cx_N 3 = 12 from rfl]
  refine ex_dup ok2_X11_init (mi 65 rfl) rfl ?_
  refine ex_iload_n ok2_X11_init (mi 66 rfl) rfl ?_
  refine ex_aload_n ok2_X11_init (mi 67 rfl) rfl ?_
  have s44 := ST_N (k := 4) (l := 0) s43
  refine ex_getRx ok2_X11_init (mi 68 rfl) rfl rfl (sh_k s44.2.1 0 rfl) (sh_r s44.2.1 3 rfl) (sh_k s44.2.1 1 rfl) (by decide) ?_
  refine ex_aload_n ok2_X11_init (mi 69 rfl) rfl ?_
  refine ex_getRx ok2_X11_init (mi 70 rfl) rfl rfl (sh_k s44.2.1 0 rfl) (sh_r s44.2.1 4 rfl) (sh_k s44.2.1 3 rfl) (by decide) ?_
  refine ex_callIp ok2_X11_init (mi 71 rfl) rfl (m_X3_init (n := nI (5 + 1)) (air := x + 1) (groups := x + 807) hst kNew zNew (sh_k s44.2.1 1 rfl) (lt_st s44 (by decide)) (sh_k s44.2.1 3 rfl) (lt_st s44 (by decide))) rfl rfl rfl rfl (by decide) (Nat.le_of_ble_eq_true rfl) ⟨by omega, by omega⟩ (fun h45 e45 => ?_)
  have s45 := ST_keeper (i := (5 + 1)) (ar := 1) (gp := 807) s43 e45
  refine ST_aast (n1 := 2) (i := 6) (t := 861) (a := 848) (N := 9) ok2_X11_init (mi 72 rfl) (by decide) s45 (sh_k s45.2.1 44 rfl) (sh_n s45.2.1 44 rfl) rfl (by decide) (by decide) s43.1 (sh_k s45.2.1 57 rfl) (by decide) (by decide) (by decide) (fun h46 s46 => ?_)
  refine ex_iinc ok2_X11_init (mi 73 rfl) rfl ?_
  refine ex_goto (tgt := 115) ok2_X11_init (mi 74 rfl) rfl ?_
  refine ex_ls (ls' := [(0, .ref x), (1, .int (nI (6 + 1)))]) ⟨rfl, by rw [nI_succ]; rfl, trivial⟩ ?_
  refine ex_iload_n ok2_X11_init (mi 58 rfl) rfl ?_
  refine ex_bipush ok2_X11_init (mi 59 rfl) ?_
  refine ex_icmp_ge (tgt := 149) ok2_X11_init (mi 60 rfl) rfl (fun hc => absurd hc (by decide)) (fun _ => ?_)
  refine ex_aload_n ok2_X11_init (mi 61 rfl) rfl ?_
  refine ex_getRx ok2_X11_init (mi 62 rfl) rfl rfl (sh_k s46.2.1 0 rfl) (sh_r s46.2.1 56 rfl) (sh_k s46.2.1 44 rfl) (by decide) ?_
  refine ex_iload_n ok2_X11_init (mi 63 rfl) rfl ?_
  refine ex_new ok2_X11_init (mi 64 rfl) rfl (by decide) (by omega) (by rw [show cx_N 3 = 12 from rfl]; omega) ?_
  rw [show cx_N 3 = 12 from rfl]
  refine ex_dup ok2_X11_init (mi 65 rfl) rfl ?_
  refine ex_iload_n ok2_X11_init (mi 66 rfl) rfl ?_
  refine ex_aload_n ok2_X11_init (mi 67 rfl) rfl ?_
  have s47 := ST_N (k := 4) (l := 0) s46
  refine ex_getRx ok2_X11_init (mi 68 rfl) rfl rfl (sh_k s47.2.1 0 rfl) (sh_r s47.2.1 3 rfl) (sh_k s47.2.1 1 rfl) (by decide) ?_
  refine ex_aload_n ok2_X11_init (mi 69 rfl) rfl ?_
  refine ex_getRx ok2_X11_init (mi 70 rfl) rfl rfl (sh_k s47.2.1 0 rfl) (sh_r s47.2.1 4 rfl) (sh_k s47.2.1 3 rfl) (by decide) ?_
  refine ex_callIp ok2_X11_init (mi 71 rfl) rfl (m_X3_init (n := nI (6 + 1)) (air := x + 1) (groups := x + 807) hst kNew zNew (sh_k s47.2.1 1 rfl) (lt_st s47 (by decide)) (sh_k s47.2.1 3 rfl) (lt_st s47 (by decide))) rfl rfl rfl rfl (by decide) (Nat.le_of_ble_eq_true rfl) ⟨by omega, by omega⟩ (fun h48 e48 => ?_)
  have s48 := ST_keeper (i := (6 + 1)) (ar := 1) (gp := 807) s46 e48
  refine ST_aast (n1 := 2) (i := 7) (t := 863) (a := 848) (N := 9) ok2_X11_init (mi 72 rfl) (by decide) s48 (sh_k s48.2.1 44 rfl) (sh_n s48.2.1 44 rfl) rfl (by decide) (by decide) s46.1 (sh_k s48.2.1 59 rfl) (by decide) (by decide) (by decide) (fun h49 s49 => ?_)
  refine ex_iinc ok2_X11_init (mi 73 rfl) rfl ?_
  refine ex_goto (tgt := 115) ok2_X11_init (mi 74 rfl) rfl ?_
  refine ex_ls (ls' := [(0, .ref x), (1, .int (nI (7 + 1)))]) ⟨rfl, by rw [nI_succ]; rfl, trivial⟩ ?_
  refine ex_iload_n ok2_X11_init (mi 58 rfl) rfl ?_
  refine ex_bipush ok2_X11_init (mi 59 rfl) ?_
  refine ex_icmp_ge (tgt := 149) ok2_X11_init (mi 60 rfl) rfl (fun hc => absurd hc (by decide)) (fun _ => ?_)
  refine ex_aload_n ok2_X11_init (mi 61 rfl) rfl ?_
  refine ex_getRx ok2_X11_init (mi 62 rfl) rfl rfl (sh_k s49.2.1 0 rfl) (sh_r s49.2.1 56 rfl) (sh_k s49.2.1 44 rfl) (by decide) ?_
  refine ex_iload_n ok2_X11_init (mi 63 rfl) rfl ?_
  refine ex_new ok2_X11_init (mi 64 rfl) rfl (by decide) (by omega) (by rw [show cx_N 3 = 12 from rfl]; omega) ?_
  rw [show cx_N 3 = 12 from rfl]
  refine ex_dup ok2_X11_init (mi 65 rfl) rfl ?_
  refine ex_iload_n ok2_X11_init (mi 66 rfl) rfl ?_
  refine ex_aload_n ok2_X11_init (mi 67 rfl) rfl ?_
  have s50 := ST_N (k := 4) (l := 0) s49
  refine ex_getRx ok2_X11_init (mi 68 rfl) rfl rfl (sh_k s50.2.1 0 rfl) (sh_r s50.2.1 3 rfl) (sh_k s50.2.1 1 rfl) (by decide) ?_
  refine ex_aload_n ok2_X11_init (mi 69 rfl) rfl ?_
  refine ex_getRx ok2_X11_init (mi 70 rfl) rfl rfl (sh_k s50.2.1 0 rfl) (sh_r s50.2.1 4 rfl) (sh_k s50.2.1 3 rfl) (by decide) ?_
  refine ex_callIp ok2_X11_init (mi 71 rfl) rfl (m_X3_init (n := nI (7 + 1)) (air := x + 1) (groups := x + 807) hst kNew zNew (sh_k s50.2.1 1 rfl) (lt_st s50 (by decide)) (sh_k s50.2.1 3 rfl) (lt_st s50 (by decide))) rfl rfl rfl rfl (by decide) (Nat.le_of_ble_eq_true rfl) ⟨by omega, by omega⟩ (fun h51 e51 => ?_)
  have s51 := ST_keeper (i := (7 + 1)) (ar := 1) (gp := 807) s49 e51
  refine ST_aast (n1 := 2) (i := 8) (t := 865) (a := 848) (N := 9) ok2_X11_init (mi 72 rfl) (by decide) s51 (sh_k s51.2.1 44 rfl) (sh_n s51.2.1 44 rfl) rfl (by decide) (by decide) s49.1 (sh_k s51.2.1 61 rfl) (by decide) (by decide) (by decide) (fun h52 s52 => ?_)
  refine ex_iinc ok2_X11_init (mi 73 rfl) rfl ?_
  refine ex_goto (tgt := 115) ok2_X11_init (mi 74 rfl) rfl ?_
  refine ex_ls (ls' := [(0, .ref x), (1, .int (nI (8 + 1)))]) ⟨rfl, by rw [nI_succ]; rfl, trivial⟩ ?_
  refine ex_iload_n ok2_X11_init (mi 58 rfl) rfl ?_
  refine ex_bipush ok2_X11_init (mi 59 rfl) ?_
  refine ex_icmp_ge (tgt := 149) ok2_X11_init (mi 60 rfl) rfl (fun _ => ?_) (fun hc => absurd (by decide) hc)
  refine ex_aload_n ok2_X11_init (mi 75 rfl) rfl ?_
  refine ex_bipush ok2_X11_init (mi 76 rfl) ?_
  refine ex_anew2 (n := 3) (N := 12) ok2_X11_init (mi 77 rfl) rfl (by decide) (by decide) (by decide) (by decide) (by omega) (by omega) ?_
  have s53 := ST_N (k := 56) (l := 12) s52
  refine ST_put (t := 867) ok2_X11_init (mi 78 rfl) rfl rfl s53 (sh_k s53.2.1 0 rfl) s52.1 (sh_k s53.2.1 63 rfl) (by decide) (by decide) (fun h54 s54 => ?_)
  refine ex_iconst ok2_X11_init (mi 79 rfl) ?_
  refine ex_istore_n ok2_X11_init (mi 80 rfl) ?_
  refine ex_ls (ls' := [(0, .ref x), (1, .int (nI 0))]) ⟨rfl, rfl, trivial⟩ ?_
  refine ex_iload_n ok2_X11_init (mi 81 rfl) rfl ?_
  refine ex_bipush ok2_X11_init (mi 82 rfl) ?_
  refine ex_icmp_ge (tgt := 194) ok2_X11_init (mi 83 rfl) rfl (fun hc => absurd hc (by decide)) (fun _ => ?_)
  refine ex_aload_n ok2_X11_init (mi 84 rfl) rfl ?_
  refine ex_getRx ok2_X11_init (mi 85 rfl) rfl rfl (sh_k s54.2.1 0 rfl) (sh_r s54.2.1 84 rfl) (sh_k s54.2.1 63 rfl) (by decide) ?_
  refine ex_iload_n ok2_X11_init (mi 86 rfl) rfl ?_
  refine ex_new ok2_X11_init (mi 87 rfl) rfl (by decide) (by omega) (by rw [show cx_N 10 = 6 from rfl]; omega) ?_
  rw [show cx_N 10 = 6 from rfl]
  refine ex_dup ok2_X11_init (mi 88 rfl) rfl ?_
  refine ex_iload_n ok2_X11_init (mi 89 rfl) rfl ?_
  refine ex_aload_n ok2_X11_init (mi 90 rfl) rfl ?_
  have s55 := ST_N (k := 11) (l := 0) s54
  refine ex_getRx ok2_X11_init (mi 91 rfl) rfl rfl (sh_k s55.2.1 0 rfl) (sh_r s55.2.1 3 rfl) (sh_k s55.2.1 1 rfl) (by decide) ?_
  refine ex_aload_n ok2_X11_init (mi 92 rfl) rfl ?_
  refine ex_getRx ok2_X11_init (mi 93 rfl) rfl rfl (sh_k s55.2.1 0 rfl) (sh_r s55.2.1 8 rfl) (sh_k s55.2.1 4 rfl) (by decide) ?_
  refine ex_callIp ok2_X11_init (mi 94 rfl) rfl (m_X10_init (n := nI 0) (air := x + 1) (tally := x + 808) hst kNew zNew (sh_k s55.2.1 1 rfl) (lt_st s55 (by decide)) (sh_k s55.2.1 4 rfl) (lt_st s55 (by decide))) rfl rfl rfl rfl (by decide) (Nat.le_of_ble_eq_true rfl) ⟨by omega, by omega⟩ (fun h56 e56 => ?_)
  have s56 := ST_voter (i := 0) (ar := 1) (tl := 808) s54 e56
  refine ST_aast (n1 := 3) (i := 0) (t := 868) (a := 867) (N := 12) ok2_X11_init (mi 95 rfl) (by decide) s56 (sh_k s56.2.1 63 rfl) (sh_n s56.2.1 63 rfl) rfl (by decide) (by decide) s54.1 (sh_k s56.2.1 64 rfl) (by decide) (by decide) (by decide) (fun h57 s57 => ?_)
  refine ex_iinc ok2_X11_init (mi 96 rfl) rfl ?_
  refine ex_goto (tgt := 160) ok2_X11_init (mi 97 rfl) rfl ?_
  refine ex_ls (ls' := [(0, .ref x), (1, .int (nI (0 + 1)))]) ⟨rfl, by rw [nI_succ]; rfl, trivial⟩ ?_
  refine ex_iload_n ok2_X11_init (mi 81 rfl) rfl ?_
  refine ex_bipush ok2_X11_init (mi 82 rfl) ?_
  refine ex_icmp_ge (tgt := 194) ok2_X11_init (mi 83 rfl) rfl (fun hc => absurd hc (by decide)) (fun _ => ?_)
  refine ex_aload_n ok2_X11_init (mi 84 rfl) rfl ?_
  refine ex_getRx ok2_X11_init (mi 85 rfl) rfl rfl (sh_k s57.2.1 0 rfl) (sh_r s57.2.1 84 rfl) (sh_k s57.2.1 63 rfl) (by decide) ?_
  refine ex_iload_n ok2_X11_init (mi 86 rfl) rfl ?_
  refine ex_new ok2_X11_init (mi 87 rfl) rfl (by decide) (by omega) (by rw [show cx_N 10 = 6 from rfl]; omega) ?_
  rw [show cx_N 10 = 6 from rfl]
  refine ex_dup ok2_X11_init (mi 88 rfl) rfl ?_
  refine ex_iload_n ok2_X11_init (mi 89 rfl) rfl ?_
  refine ex_aload_n ok2_X11_init (mi 90 rfl) rfl ?_
  have s58 := ST_N (k := 11) (l := 0) s57
  refine ex_getRx ok2_X11_init (mi 91 rfl) rfl rfl (sh_k s58.2.1 0 rfl) (sh_r s58.2.1 3 rfl) (sh_k s58.2.1 1 rfl) (by decide) ?_
  refine ex_aload_n ok2_X11_init (mi 92 rfl) rfl ?_
  refine ex_getRx ok2_X11_init (mi 93 rfl) rfl rfl (sh_k s58.2.1 0 rfl) (sh_r s58.2.1 8 rfl) (sh_k s58.2.1 4 rfl) (by decide) ?_
  refine ex_callIp ok2_X11_init (mi 94 rfl) rfl (m_X10_init (n := nI (0 + 1)) (air := x + 1) (tally := x + 808) hst kNew zNew (sh_k s58.2.1 1 rfl) (lt_st s58 (by decide)) (sh_k s58.2.1 4 rfl) (lt_st s58 (by decide))) rfl rfl rfl rfl (by decide) (Nat.le_of_ble_eq_true rfl) ⟨by omega, by omega⟩ (fun h59 e59 => ?_)
  have s59 := ST_voter (i := (0 + 1)) (ar := 1) (tl := 808) s57 e59
  refine ST_aast (n1 := 3) (i := 1) (t := 870) (a := 867) (N := 12) ok2_X11_init (mi 95 rfl) (by decide) s59 (sh_k s59.2.1 63 rfl) (sh_n s59.2.1 63 rfl) rfl (by decide) (by decide) s57.1 (sh_k s59.2.1 66 rfl) (by decide) (by decide) (by decide) (fun h60 s60 => ?_)
  refine ex_iinc ok2_X11_init (mi 96 rfl) rfl ?_
  refine ex_goto (tgt := 160) ok2_X11_init (mi 97 rfl) rfl ?_
  refine ex_ls (ls' := [(0, .ref x), (1, .int (nI (1 + 1)))]) ⟨rfl, by rw [nI_succ]; rfl, trivial⟩ ?_
  refine ex_iload_n ok2_X11_init (mi 81 rfl) rfl ?_
  refine ex_bipush ok2_X11_init (mi 82 rfl) ?_
  refine ex_icmp_ge (tgt := 194) ok2_X11_init (mi 83 rfl) rfl (fun hc => absurd hc (by decide)) (fun _ => ?_)
  refine ex_aload_n ok2_X11_init (mi 84 rfl) rfl ?_
  refine ex_getRx ok2_X11_init (mi 85 rfl) rfl rfl (sh_k s60.2.1 0 rfl) (sh_r s60.2.1 84 rfl) (sh_k s60.2.1 63 rfl) (by decide) ?_
  refine ex_iload_n ok2_X11_init (mi 86 rfl) rfl ?_
  refine ex_new ok2_X11_init (mi 87 rfl) rfl (by decide) (by omega) (by rw [show cx_N 10 = 6 from rfl]; omega) ?_
  rw [show cx_N 10 = 6 from rfl]
  refine ex_dup ok2_X11_init (mi 88 rfl) rfl ?_
  refine ex_iload_n ok2_X11_init (mi 89 rfl) rfl ?_
  refine ex_aload_n ok2_X11_init (mi 90 rfl) rfl ?_
  have s61 := ST_N (k := 11) (l := 0) s60
  refine ex_getRx ok2_X11_init (mi 91 rfl) rfl rfl (sh_k s61.2.1 0 rfl) (sh_r s61.2.1 3 rfl) (sh_k s61.2.1 1 rfl) (by decide) ?_
  refine ex_aload_n ok2_X11_init (mi 92 rfl) rfl ?_
  refine ex_getRx ok2_X11_init (mi 93 rfl) rfl rfl (sh_k s61.2.1 0 rfl) (sh_r s61.2.1 8 rfl) (sh_k s61.2.1 4 rfl) (by decide) ?_
  refine ex_callIp ok2_X11_init (mi 94 rfl) rfl (m_X10_init (n := nI (1 + 1)) (air := x + 1) (tally := x + 808) hst kNew zNew (sh_k s61.2.1 1 rfl) (lt_st s61 (by decide)) (sh_k s61.2.1 4 rfl) (lt_st s61 (by decide))) rfl rfl rfl rfl (by decide) (Nat.le_of_ble_eq_true rfl) ⟨by omega, by omega⟩ (fun h62 e62 => ?_)
  have s62 := ST_voter (i := (1 + 1)) (ar := 1) (tl := 808) s60 e62
  refine ST_aast (n1 := 3) (i := 2) (t := 872) (a := 867) (N := 12) ok2_X11_init (mi 95 rfl) (by decide) s62 (sh_k s62.2.1 63 rfl) (sh_n s62.2.1 63 rfl) rfl (by decide) (by decide) s60.1 (sh_k s62.2.1 68 rfl) (by decide) (by decide) (by decide) (fun h63 s63 => ?_)
  refine ex_iinc ok2_X11_init (mi 96 rfl) rfl ?_
  refine ex_goto (tgt := 160) ok2_X11_init (mi 97 rfl) rfl ?_
  refine ex_ls (ls' := [(0, .ref x), (1, .int (nI (2 + 1)))]) ⟨rfl, by rw [nI_succ]; rfl, trivial⟩ ?_
  refine ex_iload_n ok2_X11_init (mi 81 rfl) rfl ?_
  refine ex_bipush ok2_X11_init (mi 82 rfl) ?_
  refine ex_icmp_ge (tgt := 194) ok2_X11_init (mi 83 rfl) rfl (fun hc => absurd hc (by decide)) (fun _ => ?_)
  refine ex_aload_n ok2_X11_init (mi 84 rfl) rfl ?_
  refine ex_getRx ok2_X11_init (mi 85 rfl) rfl rfl (sh_k s63.2.1 0 rfl) (sh_r s63.2.1 84 rfl) (sh_k s63.2.1 63 rfl) (by decide) ?_
  refine ex_iload_n ok2_X11_init (mi 86 rfl) rfl ?_
  refine ex_new ok2_X11_init (mi 87 rfl) rfl (by decide) (by omega) (by rw [show cx_N 10 = 6 from rfl]; omega) ?_
  rw [show cx_N 10 = 6 from rfl]
  refine ex_dup ok2_X11_init (mi 88 rfl) rfl ?_
  refine ex_iload_n ok2_X11_init (mi 89 rfl) rfl ?_
  refine ex_aload_n ok2_X11_init (mi 90 rfl) rfl ?_
  have s64 := ST_N (k := 11) (l := 0) s63
  refine ex_getRx ok2_X11_init (mi 91 rfl) rfl rfl (sh_k s64.2.1 0 rfl) (sh_r s64.2.1 3 rfl) (sh_k s64.2.1 1 rfl) (by decide) ?_
  refine ex_aload_n ok2_X11_init (mi 92 rfl) rfl ?_
  refine ex_getRx ok2_X11_init (mi 93 rfl) rfl rfl (sh_k s64.2.1 0 rfl) (sh_r s64.2.1 8 rfl) (sh_k s64.2.1 4 rfl) (by decide) ?_
  refine ex_callIp ok2_X11_init (mi 94 rfl) rfl (m_X10_init (n := nI (2 + 1)) (air := x + 1) (tally := x + 808) hst kNew zNew (sh_k s64.2.1 1 rfl) (lt_st s64 (by decide)) (sh_k s64.2.1 4 rfl) (lt_st s64 (by decide))) rfl rfl rfl rfl (by decide) (Nat.le_of_ble_eq_true rfl) ⟨by omega, by omega⟩ (fun h65 e65 => ?_)
  have s65 := ST_voter (i := (2 + 1)) (ar := 1) (tl := 808) s63 e65
  refine ST_aast (n1 := 3) (i := 3) (t := 874) (a := 867) (N := 12) ok2_X11_init (mi 95 rfl) (by decide) s65 (sh_k s65.2.1 63 rfl) (sh_n s65.2.1 63 rfl) rfl (by decide) (by decide) s63.1 (sh_k s65.2.1 70 rfl) (by decide) (by decide) (by decide) (fun h66 s66 => ?_)
  refine ex_iinc ok2_X11_init (mi 96 rfl) rfl ?_
  refine ex_goto (tgt := 160) ok2_X11_init (mi 97 rfl) rfl ?_
  refine ex_ls (ls' := [(0, .ref x), (1, .int (nI (3 + 1)))]) ⟨rfl, by rw [nI_succ]; rfl, trivial⟩ ?_
  refine ex_iload_n ok2_X11_init (mi 81 rfl) rfl ?_
  refine ex_bipush ok2_X11_init (mi 82 rfl) ?_
  refine ex_icmp_ge (tgt := 194) ok2_X11_init (mi 83 rfl) rfl (fun hc => absurd hc (by decide)) (fun _ => ?_)
  refine ex_aload_n ok2_X11_init (mi 84 rfl) rfl ?_
  refine ex_getRx ok2_X11_init (mi 85 rfl) rfl rfl (sh_k s66.2.1 0 rfl) (sh_r s66.2.1 84 rfl) (sh_k s66.2.1 63 rfl) (by decide) ?_
  refine ex_iload_n ok2_X11_init (mi 86 rfl) rfl ?_
  refine ex_new ok2_X11_init (mi 87 rfl) rfl (by decide) (by omega) (by rw [show cx_N 10 = 6 from rfl]; omega) ?_
  rw [show cx_N 10 = 6 from rfl]
  refine ex_dup ok2_X11_init (mi 88 rfl) rfl ?_
  refine ex_iload_n ok2_X11_init (mi 89 rfl) rfl ?_
  refine ex_aload_n ok2_X11_init (mi 90 rfl) rfl ?_
  have s67 := ST_N (k := 11) (l := 0) s66
  refine ex_getRx ok2_X11_init (mi 91 rfl) rfl rfl (sh_k s67.2.1 0 rfl) (sh_r s67.2.1 3 rfl) (sh_k s67.2.1 1 rfl) (by decide) ?_
  refine ex_aload_n ok2_X11_init (mi 92 rfl) rfl ?_
  refine ex_getRx ok2_X11_init (mi 93 rfl) rfl rfl (sh_k s67.2.1 0 rfl) (sh_r s67.2.1 8 rfl) (sh_k s67.2.1 4 rfl) (by decide) ?_
  refine ex_callIp ok2_X11_init (mi 94 rfl) rfl (m_X10_init (n := nI (3 + 1)) (air := x + 1) (tally := x + 808) hst kNew zNew (sh_k s67.2.1 1 rfl) (lt_st s67 (by decide)) (sh_k s67.2.1 4 rfl) (lt_st s67 (by decide))) rfl rfl rfl rfl (by decide) (Nat.le_of_ble_eq_true rfl) ⟨by omega, by omega⟩ (fun h68 e68 => ?_)
  have s68 := ST_voter (i := (3 + 1)) (ar := 1) (tl := 808) s66 e68
  refine ST_aast (n1 := 3) (i := 4) (t := 876) (a := 867) (N := 12) ok2_X11_init (mi 95 rfl) (by decide) s68 (sh_k s68.2.1 63 rfl) (sh_n s68.2.1 63 rfl) rfl (by decide) (by decide) s66.1 (sh_k s68.2.1 72 rfl) (by decide) (by decide) (by decide) (fun h69 s69 => ?_)
  refine ex_iinc ok2_X11_init (mi 96 rfl) rfl ?_
  refine ex_goto (tgt := 160) ok2_X11_init (mi 97 rfl) rfl ?_
  refine ex_ls (ls' := [(0, .ref x), (1, .int (nI (4 + 1)))]) ⟨rfl, by rw [nI_succ]; rfl, trivial⟩ ?_
  refine ex_iload_n ok2_X11_init (mi 81 rfl) rfl ?_
  refine ex_bipush ok2_X11_init (mi 82 rfl) ?_
  refine ex_icmp_ge (tgt := 194) ok2_X11_init (mi 83 rfl) rfl (fun hc => absurd hc (by decide)) (fun _ => ?_)
  refine ex_aload_n ok2_X11_init (mi 84 rfl) rfl ?_
  refine ex_getRx ok2_X11_init (mi 85 rfl) rfl rfl (sh_k s69.2.1 0 rfl) (sh_r s69.2.1 84 rfl) (sh_k s69.2.1 63 rfl) (by decide) ?_
  refine ex_iload_n ok2_X11_init (mi 86 rfl) rfl ?_
  refine ex_new ok2_X11_init (mi 87 rfl) rfl (by decide) (by omega) (by rw [show cx_N 10 = 6 from rfl]; omega) ?_
  rw [show cx_N 10 = 6 from rfl]
  refine ex_dup ok2_X11_init (mi 88 rfl) rfl ?_
  refine ex_iload_n ok2_X11_init (mi 89 rfl) rfl ?_
  refine ex_aload_n ok2_X11_init (mi 90 rfl) rfl ?_
  have s70 := ST_N (k := 11) (l := 0) s69
  refine ex_getRx ok2_X11_init (mi 91 rfl) rfl rfl (sh_k s70.2.1 0 rfl) (sh_r s70.2.1 3 rfl) (sh_k s70.2.1 1 rfl) (by decide) ?_
  refine ex_aload_n ok2_X11_init (mi 92 rfl) rfl ?_
  refine ex_getRx ok2_X11_init (mi 93 rfl) rfl rfl (sh_k s70.2.1 0 rfl) (sh_r s70.2.1 8 rfl) (sh_k s70.2.1 4 rfl) (by decide) ?_
  refine ex_callIp ok2_X11_init (mi 94 rfl) rfl (m_X10_init (n := nI (4 + 1)) (air := x + 1) (tally := x + 808) hst kNew zNew (sh_k s70.2.1 1 rfl) (lt_st s70 (by decide)) (sh_k s70.2.1 4 rfl) (lt_st s70 (by decide))) rfl rfl rfl rfl (by decide) (Nat.le_of_ble_eq_true rfl) ⟨by omega, by omega⟩ (fun h71 e71 => ?_)
  have s71 := ST_voter (i := (4 + 1)) (ar := 1) (tl := 808) s69 e71
  refine ST_aast (n1 := 3) (i := 5) (t := 878) (a := 867) (N := 12) ok2_X11_init (mi 95 rfl) (by decide) s71 (sh_k s71.2.1 63 rfl) (sh_n s71.2.1 63 rfl) rfl (by decide) (by decide) s69.1 (sh_k s71.2.1 74 rfl) (by decide) (by decide) (by decide) (fun h72 s72 => ?_)
  refine ex_iinc ok2_X11_init (mi 96 rfl) rfl ?_
  refine ex_goto (tgt := 160) ok2_X11_init (mi 97 rfl) rfl ?_
  refine ex_ls (ls' := [(0, .ref x), (1, .int (nI (5 + 1)))]) ⟨rfl, by rw [nI_succ]; rfl, trivial⟩ ?_
  refine ex_iload_n ok2_X11_init (mi 81 rfl) rfl ?_
  refine ex_bipush ok2_X11_init (mi 82 rfl) ?_
  refine ex_icmp_ge (tgt := 194) ok2_X11_init (mi 83 rfl) rfl (fun hc => absurd hc (by decide)) (fun _ => ?_)
  refine ex_aload_n ok2_X11_init (mi 84 rfl) rfl ?_
  refine ex_getRx ok2_X11_init (mi 85 rfl) rfl rfl (sh_k s72.2.1 0 rfl) (sh_r s72.2.1 84 rfl) (sh_k s72.2.1 63 rfl) (by decide) ?_
  refine ex_iload_n ok2_X11_init (mi 86 rfl) rfl ?_
  refine ex_new ok2_X11_init (mi 87 rfl) rfl (by decide) (by omega) (by rw [show cx_N 10 = 6 from rfl]; omega) ?_
  rw [show cx_N 10 = 6 from rfl]
  refine ex_dup ok2_X11_init (mi 88 rfl) rfl ?_
  refine ex_iload_n ok2_X11_init (mi 89 rfl) rfl ?_
  refine ex_aload_n ok2_X11_init (mi 90 rfl) rfl ?_
  have s73 := ST_N (k := 11) (l := 0) s72
  refine ex_getRx ok2_X11_init (mi 91 rfl) rfl rfl (sh_k s73.2.1 0 rfl) (sh_r s73.2.1 3 rfl) (sh_k s73.2.1 1 rfl) (by decide) ?_
  refine ex_aload_n ok2_X11_init (mi 92 rfl) rfl ?_
  refine ex_getRx ok2_X11_init (mi 93 rfl) rfl rfl (sh_k s73.2.1 0 rfl) (sh_r s73.2.1 8 rfl) (sh_k s73.2.1 4 rfl) (by decide) ?_
  refine ex_callIp ok2_X11_init (mi 94 rfl) rfl (m_X10_init (n := nI (5 + 1)) (air := x + 1) (tally := x + 808) hst kNew zNew (sh_k s73.2.1 1 rfl) (lt_st s73 (by decide)) (sh_k s73.2.1 4 rfl) (lt_st s73 (by decide))) rfl rfl rfl rfl (by decide) (Nat.le_of_ble_eq_true rfl) ⟨by omega, by omega⟩ (fun h74 e74 => ?_)
  have s74 := ST_voter (i := (5 + 1)) (ar := 1) (tl := 808) s72 e74
  refine ST_aast (n1 := 3) (i := 6) (t := 880) (a := 867) (N := 12) ok2_X11_init (mi 95 rfl) (by decide) s74 (sh_k s74.2.1 63 rfl) (sh_n s74.2.1 63 rfl) rfl (by decide) (by decide) s72.1 (sh_k s74.2.1 76 rfl) (by decide) (by decide) (by decide) (fun h75 s75 => ?_)
  refine ex_iinc ok2_X11_init (mi 96 rfl) rfl ?_
  refine ex_goto (tgt := 160) ok2_X11_init (mi 97 rfl) rfl ?_
  refine ex_ls (ls' := [(0, .ref x), (1, .int (nI (6 + 1)))]) ⟨rfl, by rw [nI_succ]; rfl, trivial⟩ ?_
  refine ex_iload_n ok2_X11_init (mi 81 rfl) rfl ?_
  refine ex_bipush ok2_X11_init (mi 82 rfl) ?_
  refine ex_icmp_ge (tgt := 194) ok2_X11_init (mi 83 rfl) rfl (fun hc => absurd hc (by decide)) (fun _ => ?_)
  refine ex_aload_n ok2_X11_init (mi 84 rfl) rfl ?_
  refine ex_getRx ok2_X11_init (mi 85 rfl) rfl rfl (sh_k s75.2.1 0 rfl) (sh_r s75.2.1 84 rfl) (sh_k s75.2.1 63 rfl) (by decide) ?_
  refine ex_iload_n ok2_X11_init (mi 86 rfl) rfl ?_
  refine ex_new ok2_X11_init (mi 87 rfl) rfl (by decide) (by omega) (by rw [show cx_N 10 = 6 from rfl]; omega) ?_
  rw [show cx_N 10 = 6 from rfl]
  refine ex_dup ok2_X11_init (mi 88 rfl) rfl ?_
  refine ex_iload_n ok2_X11_init (mi 89 rfl) rfl ?_
  refine ex_aload_n ok2_X11_init (mi 90 rfl) rfl ?_
  have s76 := ST_N (k := 11) (l := 0) s75
  refine ex_getRx ok2_X11_init (mi 91 rfl) rfl rfl (sh_k s76.2.1 0 rfl) (sh_r s76.2.1 3 rfl) (sh_k s76.2.1 1 rfl) (by decide) ?_
  refine ex_aload_n ok2_X11_init (mi 92 rfl) rfl ?_
  refine ex_getRx ok2_X11_init (mi 93 rfl) rfl rfl (sh_k s76.2.1 0 rfl) (sh_r s76.2.1 8 rfl) (sh_k s76.2.1 4 rfl) (by decide) ?_
  refine ex_callIp ok2_X11_init (mi 94 rfl) rfl (m_X10_init (n := nI (6 + 1)) (air := x + 1) (tally := x + 808) hst kNew zNew (sh_k s76.2.1 1 rfl) (lt_st s76 (by decide)) (sh_k s76.2.1 4 rfl) (lt_st s76 (by decide))) rfl rfl rfl rfl (by decide) (Nat.le_of_ble_eq_true rfl) ⟨by omega, by omega⟩ (fun h77 e77 => ?_)
  have s77 := ST_voter (i := (6 + 1)) (ar := 1) (tl := 808) s75 e77
  refine ST_aast (n1 := 3) (i := 7) (t := 882) (a := 867) (N := 12) ok2_X11_init (mi 95 rfl) (by decide) s77 (sh_k s77.2.1 63 rfl) (sh_n s77.2.1 63 rfl) rfl (by decide) (by decide) s75.1 (sh_k s77.2.1 78 rfl) (by decide) (by decide) (by decide) (fun h78 s78 => ?_)
  refine ex_iinc ok2_X11_init (mi 96 rfl) rfl ?_
  refine ex_goto (tgt := 160) ok2_X11_init (mi 97 rfl) rfl ?_
  refine ex_ls (ls' := [(0, .ref x), (1, .int (nI (7 + 1)))]) ⟨rfl, by rw [nI_succ]; rfl, trivial⟩ ?_
  refine ex_iload_n ok2_X11_init (mi 81 rfl) rfl ?_
  refine ex_bipush ok2_X11_init (mi 82 rfl) ?_
  refine ex_icmp_ge (tgt := 194) ok2_X11_init (mi 83 rfl) rfl (fun hc => absurd hc (by decide)) (fun _ => ?_)
  refine ex_aload_n ok2_X11_init (mi 84 rfl) rfl ?_
  refine ex_getRx ok2_X11_init (mi 85 rfl) rfl rfl (sh_k s78.2.1 0 rfl) (sh_r s78.2.1 84 rfl) (sh_k s78.2.1 63 rfl) (by decide) ?_
  refine ex_iload_n ok2_X11_init (mi 86 rfl) rfl ?_
  refine ex_new ok2_X11_init (mi 87 rfl) rfl (by decide) (by omega) (by rw [show cx_N 10 = 6 from rfl]; omega) ?_
  rw [show cx_N 10 = 6 from rfl]
  refine ex_dup ok2_X11_init (mi 88 rfl) rfl ?_
  refine ex_iload_n ok2_X11_init (mi 89 rfl) rfl ?_
  refine ex_aload_n ok2_X11_init (mi 90 rfl) rfl ?_
  have s79 := ST_N (k := 11) (l := 0) s78
  refine ex_getRx ok2_X11_init (mi 91 rfl) rfl rfl (sh_k s79.2.1 0 rfl) (sh_r s79.2.1 3 rfl) (sh_k s79.2.1 1 rfl) (by decide) ?_
  refine ex_aload_n ok2_X11_init (mi 92 rfl) rfl ?_
  refine ex_getRx ok2_X11_init (mi 93 rfl) rfl rfl (sh_k s79.2.1 0 rfl) (sh_r s79.2.1 8 rfl) (sh_k s79.2.1 4 rfl) (by decide) ?_
  refine ex_callIp ok2_X11_init (mi 94 rfl) rfl (m_X10_init (n := nI (7 + 1)) (air := x + 1) (tally := x + 808) hst kNew zNew (sh_k s79.2.1 1 rfl) (lt_st s79 (by decide)) (sh_k s79.2.1 4 rfl) (lt_st s79 (by decide))) rfl rfl rfl rfl (by decide) (Nat.le_of_ble_eq_true rfl) ⟨by omega, by omega⟩ (fun h80 e80 => ?_)
  have s80 := ST_voter (i := (7 + 1)) (ar := 1) (tl := 808) s78 e80
  refine ST_aast (n1 := 3) (i := 8) (t := 884) (a := 867) (N := 12) ok2_X11_init (mi 95 rfl) (by decide) s80 (sh_k s80.2.1 63 rfl) (sh_n s80.2.1 63 rfl) rfl (by decide) (by decide) s78.1 (sh_k s80.2.1 80 rfl) (by decide) (by decide) (by decide) (fun h81 s81 => ?_)
  refine ex_iinc ok2_X11_init (mi 96 rfl) rfl ?_
  refine ex_goto (tgt := 160) ok2_X11_init (mi 97 rfl) rfl ?_
  refine ex_ls (ls' := [(0, .ref x), (1, .int (nI (8 + 1)))]) ⟨rfl, by rw [nI_succ]; rfl, trivial⟩ ?_
  refine ex_iload_n ok2_X11_init (mi 81 rfl) rfl ?_
  refine ex_bipush ok2_X11_init (mi 82 rfl) ?_
  refine ex_icmp_ge (tgt := 194) ok2_X11_init (mi 83 rfl) rfl (fun hc => absurd hc (by decide)) (fun _ => ?_)
  refine ex_aload_n ok2_X11_init (mi 84 rfl) rfl ?_
  refine ex_getRx ok2_X11_init (mi 85 rfl) rfl rfl (sh_k s81.2.1 0 rfl) (sh_r s81.2.1 84 rfl) (sh_k s81.2.1 63 rfl) (by decide) ?_
  refine ex_iload_n ok2_X11_init (mi 86 rfl) rfl ?_
  refine ex_new ok2_X11_init (mi 87 rfl) rfl (by decide) (by omega) (by rw [show cx_N 10 = 6 from rfl]; omega) ?_
  rw [show cx_N 10 = 6 from rfl]
  refine ex_dup ok2_X11_init (mi 88 rfl) rfl ?_
  refine ex_iload_n ok2_X11_init (mi 89 rfl) rfl ?_
  refine ex_aload_n ok2_X11_init (mi 90 rfl) rfl ?_
  have s82 := ST_N (k := 11) (l := 0) s81
  refine ex_getRx ok2_X11_init (mi 91 rfl) rfl rfl (sh_k s82.2.1 0 rfl) (sh_r s82.2.1 3 rfl) (sh_k s82.2.1 1 rfl) (by decide) ?_
  refine ex_aload_n ok2_X11_init (mi 92 rfl) rfl ?_
  refine ex_getRx ok2_X11_init (mi 93 rfl) rfl rfl (sh_k s82.2.1 0 rfl) (sh_r s82.2.1 8 rfl) (sh_k s82.2.1 4 rfl) (by decide) ?_
  refine ex_callIp ok2_X11_init (mi 94 rfl) rfl (m_X10_init (n := nI (8 + 1)) (air := x + 1) (tally := x + 808) hst kNew zNew (sh_k s82.2.1 1 rfl) (lt_st s82 (by decide)) (sh_k s82.2.1 4 rfl) (lt_st s82 (by decide))) rfl rfl rfl rfl (by decide) (Nat.le_of_ble_eq_true rfl) ⟨by omega, by omega⟩ (fun h83 e83 => ?_)
  have s83 := ST_voter (i := (8 + 1)) (ar := 1) (tl := 808) s81 e83
  refine ST_aast (n1 := 3) (i := 9) (t := 886) (a := 867) (N := 12) ok2_X11_init (mi 95 rfl) (by decide) s83 (sh_k s83.2.1 63 rfl) (sh_n s83.2.1 63 rfl) rfl (by decide) (by decide) s81.1 (sh_k s83.2.1 82 rfl) (by decide) (by decide) (by decide) (fun h84 s84 => ?_)
  refine ex_iinc ok2_X11_init (mi 96 rfl) rfl ?_
  refine ex_goto (tgt := 160) ok2_X11_init (mi 97 rfl) rfl ?_
  refine ex_ls (ls' := [(0, .ref x), (1, .int (nI (9 + 1)))]) ⟨rfl, by rw [nI_succ]; rfl, trivial⟩ ?_
  refine ex_iload_n ok2_X11_init (mi 81 rfl) rfl ?_
  refine ex_bipush ok2_X11_init (mi 82 rfl) ?_
  refine ex_icmp_ge (tgt := 194) ok2_X11_init (mi 83 rfl) rfl (fun hc => absurd hc (by decide)) (fun _ => ?_)
  refine ex_aload_n ok2_X11_init (mi 84 rfl) rfl ?_
  refine ex_getRx ok2_X11_init (mi 85 rfl) rfl rfl (sh_k s84.2.1 0 rfl) (sh_r s84.2.1 84 rfl) (sh_k s84.2.1 63 rfl) (by decide) ?_
  refine ex_iload_n ok2_X11_init (mi 86 rfl) rfl ?_
  refine ex_new ok2_X11_init (mi 87 rfl) rfl (by decide) (by omega) (by rw [show cx_N 10 = 6 from rfl]; omega) ?_
  rw [show cx_N 10 = 6 from rfl]
  refine ex_dup ok2_X11_init (mi 88 rfl) rfl ?_
  refine ex_iload_n ok2_X11_init (mi 89 rfl) rfl ?_
  refine ex_aload_n ok2_X11_init (mi 90 rfl) rfl ?_
  have s85 := ST_N (k := 11) (l := 0) s84
  refine ex_getRx ok2_X11_init (mi 91 rfl) rfl rfl (sh_k s85.2.1 0 rfl) (sh_r s85.2.1 3 rfl) (sh_k s85.2.1 1 rfl) (by decide) ?_
  refine ex_aload_n ok2_X11_init (mi 92 rfl) rfl ?_
  refine ex_getRx ok2_X11_init (mi 93 rfl) rfl rfl (sh_k s85.2.1 0 rfl) (sh_r s85.2.1 8 rfl) (sh_k s85.2.1 4 rfl) (by decide) ?_
  refine ex_callIp ok2_X11_init (mi 94 rfl) rfl (m_X10_init (n := nI (9 + 1)) (air := x + 1) (tally := x + 808) hst kNew zNew (sh_k s85.2.1 1 rfl) (lt_st s85 (by decide)) (sh_k s85.2.1 4 rfl) (lt_st s85 (by decide))) rfl rfl rfl rfl (by decide) (Nat.le_of_ble_eq_true rfl) ⟨by omega, by omega⟩ (fun h86 e86 => ?_)
  have s86 := ST_voter (i := (9 + 1)) (ar := 1) (tl := 808) s84 e86
  refine ST_aast (n1 := 3) (i := 10) (t := 888) (a := 867) (N := 12) ok2_X11_init (mi 95 rfl) (by decide) s86 (sh_k s86.2.1 63 rfl) (sh_n s86.2.1 63 rfl) rfl (by decide) (by decide) s84.1 (sh_k s86.2.1 84 rfl) (by decide) (by decide) (by decide) (fun h87 s87 => ?_)
  refine ex_iinc ok2_X11_init (mi 96 rfl) rfl ?_
  refine ex_goto (tgt := 160) ok2_X11_init (mi 97 rfl) rfl ?_
  refine ex_ls (ls' := [(0, .ref x), (1, .int (nI (10 + 1)))]) ⟨rfl, by rw [nI_succ]; rfl, trivial⟩ ?_
  refine ex_iload_n ok2_X11_init (mi 81 rfl) rfl ?_
  refine ex_bipush ok2_X11_init (mi 82 rfl) ?_
  refine ex_icmp_ge (tgt := 194) ok2_X11_init (mi 83 rfl) rfl (fun hc => absurd hc (by decide)) (fun _ => ?_)
  refine ex_aload_n ok2_X11_init (mi 84 rfl) rfl ?_
  refine ex_getRx ok2_X11_init (mi 85 rfl) rfl rfl (sh_k s87.2.1 0 rfl) (sh_r s87.2.1 84 rfl) (sh_k s87.2.1 63 rfl) (by decide) ?_
  refine ex_iload_n ok2_X11_init (mi 86 rfl) rfl ?_
  refine ex_new ok2_X11_init (mi 87 rfl) rfl (by decide) (by omega) (by rw [show cx_N 10 = 6 from rfl]; omega) ?_
  rw [show cx_N 10 = 6 from rfl]
  refine ex_dup ok2_X11_init (mi 88 rfl) rfl ?_
  refine ex_iload_n ok2_X11_init (mi 89 rfl) rfl ?_
  refine ex_aload_n ok2_X11_init (mi 90 rfl) rfl ?_
  have s88 := ST_N (k := 11) (l := 0) s87
  refine ex_getRx ok2_X11_init (mi 91 rfl) rfl rfl (sh_k s88.2.1 0 rfl) (sh_r s88.2.1 3 rfl) (sh_k s88.2.1 1 rfl) (by decide) ?_
  refine ex_aload_n ok2_X11_init (mi 92 rfl) rfl ?_
  refine ex_getRx ok2_X11_init (mi 93 rfl) rfl rfl (sh_k s88.2.1 0 rfl) (sh_r s88.2.1 8 rfl) (sh_k s88.2.1 4 rfl) (by decide) ?_
  refine ex_callIp ok2_X11_init (mi 94 rfl) rfl (m_X10_init (n := nI (10 + 1)) (air := x + 1) (tally := x + 808) hst kNew zNew (sh_k s88.2.1 1 rfl) (lt_st s88 (by decide)) (sh_k s88.2.1 4 rfl) (lt_st s88 (by decide))) rfl rfl rfl rfl (by decide) (Nat.le_of_ble_eq_true rfl) ⟨by omega, by omega⟩ (fun h89 e89 => ?_)
  have s89 := ST_voter (i := (10 + 1)) (ar := 1) (tl := 808) s87 e89
  refine ST_aast (n1 := 3) (i := 11) (t := 890) (a := 867) (N := 12) ok2_X11_init (mi 95 rfl) (by decide) s89 (sh_k s89.2.1 63 rfl) (sh_n s89.2.1 63 rfl) rfl (by decide) (by decide) s87.1 (sh_k s89.2.1 86 rfl) (by decide) (by decide) (by decide) (fun h90 s90 => ?_)
  refine ex_iinc ok2_X11_init (mi 96 rfl) rfl ?_
  refine ex_goto (tgt := 160) ok2_X11_init (mi 97 rfl) rfl ?_
  refine ex_ls (ls' := [(0, .ref x), (1, .int (nI (11 + 1)))]) ⟨rfl, by rw [nI_succ]; rfl, trivial⟩ ?_
  refine ex_iload_n ok2_X11_init (mi 81 rfl) rfl ?_
  refine ex_bipush ok2_X11_init (mi 82 rfl) ?_
  refine ex_icmp_ge (tgt := 194) ok2_X11_init (mi 83 rfl) rfl (fun _ => ?_) (fun hc => absurd (by decide) hc)
  exact hq _ s90
