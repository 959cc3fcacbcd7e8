/-! ===== Air's constructor ===== -/
section EN2
variable {G : GE} {d mc ms : Nat} {M : MT} {pc : Nat} {ls : List (Nat × Value)} {st : List Value} {g : GT} {Q : RT → GT → Prop}
theorem ex_anew2 {idx n N : Nat} {i : Int32} (hM : mt_ok M = true) (hf : mt_in M pc (.anewarray idx) 3) (hp : (mt_k M).lookup idx = some (ax_ci n)) (hn : n < 4) (hi : ¬ i < 0) (hN : i.toNatClampNeg = N) (hb9 : N ≤ 1000000) (h1 : 1 ≤ mc) (h2 : N ≤ ms) (k : ex_W G d (mc - 1) (ms - N) M (pc + 3) ls (.ref (gx_Z g) :: st) (px_N g (53 + n) N) Q) : ex_W G d mc ms M pc ls (.int i :: st) g Q := by
  intro p e R s m args9 below meth c H locs cells slots MC MS L hC hR hB hH hl hz
  have hci : ax_ci n < 13 := by
    match n, hn with
    | 0, _ => decide
    | 1, _ => decide
    | 2, _ => decide
    | 3, _ => decide
    | n + 4, h => omega
  have hkw : mt_kw (mt_y M).cls (idx, ax_ci n) = [.classLink (mt_y M).cls idx (cx_R (ax_ci n)), .instantiable (cx_R (ax_ci n)) (cx_N (ax_ci n)), .initialized (cx_R (ax_ci n))] := if_pos (by omega)
  have w1 := mt_wd hM hC (mt_kin2 hp (w := .classLink (mt_y M).cls idx (cx_R (ax_ci n))) (by rw [hkw]; simp))
  have hover : va_AO (cx_R (ax_ci n)) s := by
    obtain ⟨-, -, -, a1, a2, a3, a4, -⟩ := hC.2.2.2.2.2.2.2.2.2.1
    match n, hn with
    | 0, _ => exact a1
    | 1, _ => exact a2
    | 2, _ => exact a3
    | 3, _ => exact a4
    | n + 4, h => omega
  have hRA : s.vm.findClass ("[" ++ (FieldType.object (cx_R (ax_ci n))).toString) = some (ge_A G (3 + n)) := by
    match n, hn with
    | 0, _ => obtain ⟨_, _, _, _, _, h⟩ := (ex_ty hC 3 rfl).2; exact h
    | 1, _ => obtain ⟨_, _, _, _, _, h⟩ := (ex_ty hC 4 rfl).2; exact h
    | 2, _ => obtain ⟨_, _, _, _, _, h⟩ := (ex_ty hC 5 rfl).2; exact h
    | 3, _ => obtain ⟨_, _, _, _, _, h⟩ := (ex_ty hC 6 rfl).2; exact h
    | n + 4, h => omega
  subst hN
  refine W.anew hC.1 hC.2.1 hC.2.2.2.1 w1 (va_AO.use hover) rfl (mt_dec hM hf) rfl hi (by omega) (by omega) (by omega) fun cA kA comp f1 f2 f3 f4 => ?_
  obtain rfl : cA = ge_A G (3 + n) := Option.some.inj (f1.symm.trans hRA)
  rw [show (.ref H.size : Value) = .ref (gx_Z g) by rw [hH.1]]
  have e1 : (H.push ({ cls := ge_A G (3 + n), slots := Array.replicate i.toNatClampNeg .null, vm := .none } : Cell))[gx_Z g]? = some (arrV (ge_A G (3 + n)) i.toNatClampNeg (fun _ => .null)) := by rw [← hH.1, Array.getElem?_push_size, ← arrV_new]
  refine k p e R s m args9 below meth c _ locs (cells + 1) (slots + i.toNatClampNeg) MC MS L hC hR (by omega) (hH.push (by omega) (by rw [Array.size_push]) (fun q hq => by rw [Array.getElem?_push, if_neg (Nat.ne_of_lt hq)]) ?_) hl hz
  refine ax_cell (g := px_N g (53 + n) i.toNatClampNeg) (nx_K g (53 + n) _) rfl (by omega) (fun v hv => ?_) (by omega) e1
  refine ⟨fun h => by omega, fun h => by omega, fun h => by omega, fun i' _ h => ?_⟩
  obtain rfl : n = i' := by omega
  rw [← Option.some.inj (e1.symm.trans hv)]
  simp only [nx_N, nx_O]
  rfl
/-! answers -/
end EN2
def M2_X0_init : MT := (my_X0_init, prog_2_method_1_code, 2, none, [], [(0, .aload_n 0, 1), (1, .invokespecial 3, 3), (4, .aload_n 0, 1), (5, .sipush 400, 3), (8, .anewarray 9, 3), (11, .putfield 11, 3), (14, .iconst 0, 1), (15, .istore_n 1, 1), (16, .iload_n 1, 1), (17, .sipush 400, 3), (20, .if_icmp .ge 22, 3), (23, .aload_n 0, 1), (24, .getfield 11, 3), (27, .iload_n 1, 1), (28, .new 9, 3), (31, .dup, 1), (32, .invokespecial 17, 3), (35, .aastore, 1), (36, .iinc 1 1, 3), (39, .goto (-23), 3), (42, .aload_n 0, 1), (43, .new 9, 3), (46, .dup, 1), (47, .invokespecial 17, 3), (50, .putfield 18, 3), (53, .aload_n 0, 1), (54, .new 9, 3), (57, .dup, 1), (58, .invokespecial 17, 3), (61, .putfield 22, 3), (64, .return_, 1)], [(11, 0, 0), (18, 0, 1), (22, 0, 2)], [(3, objectInit, 0, 3, 0, 0, 0), (17, my_X6_init, 0, 5, 1, 1, 16)], [(9, 6)], [], [211, 212, 213, 129, 122, 123, 134, 87, 130, 132, 87])
theorem ok2_X0_init : mt_ok M2_X0_init = true := by decide +kernel
theorem cw2_X0_init : Cond.code (mt_y M2_X0_init) (mt_b M2_X0_init) (mt_l M2_X0_init) (mt_r M2_X0_init) ∈ lw_tbl := List.mem_of_getElem? (i := 128) (by decide +kernel)

theorem shw {T : List (Nat × Nat × Nat) × List (Nat × Nat × Nat)} {g g1 : GT} {a : Nat} (w : Nat) (h1 : ∀ q ∈ T.1, q.1 < w) (h2 : ∀ q ∈ T.2, q.1 < w) (h : ∀ c, a ≤ c → c < a + w → sm g g1 c) (e : sh T g a) : sh T g1 a := by
  refine ⟨fun q hq => ?_, fun q hq => ?_⟩
  · have hs := h (a + q.1) (Nat.le_add_right _ _) (Nat.add_lt_add_left (h1 q hq) _)
    exact ⟨hs.1.trans (e.1 q hq).1, hs.2.1.trans (e.1 q hq).2⟩
  · have hs := h (a + q.1) (Nat.le_add_right _ _) (Nat.add_lt_add_left (h2 q hq) _)
    exact (hs.2.2.2.1 _).trans (e.2 q hq)
def AI (g : GT) (a z i : Nat) (h : GT) : Prop := gx_Z h = z + 1 + 2 * i ∧ gw g h a ∧ gx_R h 0 a = z ∧ gx_K h z = 53 ∧ gx_N h z = 400 ∧ (∀ j, j < i → j < 400 → gx_O h z j = z + 1 + 2 * j) ∧ ∀ j, j < i → sh T6 h (z + 1 + 2 * j)
/-- a new message, all else as it was -/
theorem msg_new {h : GT} : gx_Z (F_X6_init (px_N h 7 0) (gx_Z h)) = gx_Z h + 2 ∧ (∀ q, q < gx_Z h → sm h (F_X6_init (px_N h 7 0) (gx_Z h)) q) ∧ sh T6 (F_X6_init (px_N h 7 0) (gx_Z h)) (gx_Z h) := by
  have n6 := new6 h
  have g6 := (gwN (g := h) (k := 7) (n := 0) (a := gx_Z h)).trans (gw_X6_init (px_N h 7 0) (gx_Z h))
  exact ⟨n6.1, fun q hq => g6.2 q hq (Nat.ne_of_lt hq), n6.2⟩
theorem AI_msg {g h h1 : GT} {a z i : Nat} (hz : gx_Z g = z) (ha : a < z) (hA : AI g a z i h) (h2 : gx_Z h1 = gx_Z h + 2) (h3 : ∀ q, q < gx_Z h → q ≠ a → q ≠ z → sm h h1 q) (h4 : sh T6 h1 (gx_Z h)) (hR : gx_R h1 0 a = z) (hK : gx_K h1 z = 53) (hN : gx_N h1 z = 400) (hO : ∀ j, j < i + 1 → j < 400 → gx_O h1 z j = z + 1 + 2 * j) (hKN : ∀ q, q < gx_Z h → gx_K h1 q = gx_K h q ∧ gx_N h1 q = gx_N h q) : AI g a z (i + 1) h1 := by
  obtain ⟨a1, a2, a3, a4, a5, a6, a7⟩ := hA
  refine ⟨by omega, ⟨⟨by have := a2.1.1; omega, fun q hq => ?_⟩, fun q hq hn => ?_⟩, hR, hK, hN, hO, fun j hj => ?_⟩
  · have k1 := a2.1.2 q hq
    have k2 := hKN q (by omega)
    exact ⟨k2.1.trans k1.1, k2.2.trans k1.2⟩
  · exact (a2.2 q hq hn).trans (h3 q (by omega) hn (by omega))
  · by_cases e : j = i
    · rw [e, ← a1]; exact h4
    · exact shw 2 (by decide) (by decide) (fun c c1 c2 => h3 c (by omega) (by omega) (by omega)) (a7 j (by omega))
theorem AI_step {g h : GT} {a z i : Nat} (hz : gx_Z g = z) (ha : a < z) (hA : AI g a z i h) : AI g a z (i + 1) (px_O (F_X6_init (px_N h 7 0) (gx_Z h)) z i (gx_Z h)) := by
  obtain ⟨n1, n2, n3⟩ := msg_new (h := h)
  have hA' := hA
  obtain ⟨a1, a2, a3, a4, a5, a6, a7⟩ := hA
  have hsa := n2 a (by omega)
  have hsz := n2 z (by omega)
  refine AI_msg hz ha hA' n1 (fun q q1 q2 q3 => (n2 q q1).trans ((gwO (g := F_X6_init (px_N h 7 0) (gx_Z h))).2 q (by omega) q3)) n3 ((hsa.2.2.2.1 0).trans a3) (hsz.1.trans a4) (hsz.2.1.trans a5) (fun j hj hj4 => ?_) (fun q hq => ⟨(n2 q hq).1, (n2 q hq).2.1⟩)
  show (if z = z ∧ j = i then gx_Z h else gx_O (F_X6_init (px_N h 7 0) (gx_Z h)) z j) = _
  by_cases e : j = i
  · rw [if_pos ⟨rfl, e⟩, a1, e]
  · rw [if_neg (fun q => e q.2), hsz.2.2.2.2.2.2 j]
    exact a6 j (by omega) hj4
/-- a message kept in a field of the Air's own -/
theorem AI_field {g h : GT} {a z i f : Nat} (hf : f ≠ 0) (hi : 400 ≤ i) (hz : gx_Z g = z) (ha : a < z) (hA : AI g a z i h) : AI g a z (i + 1) (px_R (F_X6_init (px_N h 7 0) (gx_Z h)) f a (gx_Z h)) ∧ (∀ f1, f1 ≠ f → gx_R (px_R (F_X6_init (px_N h 7 0) (gx_Z h)) f a (gx_Z h)) f1 a = gx_R h f1 a) ∧ gx_R (px_R (F_X6_init (px_N h 7 0) (gx_Z h)) f a (gx_Z h)) f a = z + 1 + 2 * i := by
  obtain ⟨n1, n2, n3⟩ := msg_new (h := h)
  have hA' := hA
  obtain ⟨a1, a2, a3, a4, a5, a6, a7⟩ := hA
  have hsa := n2 a (by omega)
  have hsz := n2 z (by omega)
  have hF : ∀ f1, f1 ≠ f → gx_R (px_R (F_X6_init (px_N h 7 0) (gx_Z h)) f a (gx_Z h)) f1 a = gx_R h f1 a := fun f1 h1 => by
    rw [gxR_R, if_neg (fun q => h1 q.1)]
    exact hsa.2.2.2.1 f1
  refine ⟨AI_msg hz ha hA' n1 (fun q q1 q2 q3 => (n2 q q1).trans ((gwR (g := F_X6_init (px_N h 7 0) (gx_Z h))).2 q (by omega) q2)) ⟨n3.1, fun q hq => ?_⟩ ((hF 0 (Ne.symm hf)).trans a3) (hsz.1.trans a4) (hsz.2.1.trans a5) (fun j hj hj4 => ?_) (fun q hq => ⟨(n2 q hq).1, (n2 q hq).2.1⟩), hF, ?_⟩
  · rw [gxR_R, if_neg (fun w => by omega)]
    exact n3.2 q hq
  · show gx_O (F_X6_init (px_N h 7 0) (gx_Z h)) z j = _
    rw [hsz.2.2.2.2.2.2 j]
    exact a6 j (by omega) hj4
  · rw [gxR_R, if_pos ⟨rfl, rfl⟩, a1]
theorem lp_X0_init {G : GE} (hst : (ge_l G).stackTraces = false) {a z : Nat} {g : GT} {Q : RT → GT → Prop} (hz : gx_Z g = z) (ha : a < z) (hk : gx_K g a = 1) (hq : ∀ h, AI g a z 400 h → ex_W G 2 4 50 M2_X0_init 42 [(0, .ref a), (1, .int (nI 400))] [] h Q) :
    ∀ n i : Nat, i + n = 400 → ∀ h, AI g a z i h → ex_W G 2 (804 - 2 * i) (10050 - 25 * i) M2_X0_init 16 [(0, .ref a), (1, .int (nI i))] [] h Q := by
  have haz : a < gx_Z g := by omega
  intro n
  induction n with
  | zero =>
    intro i hi h hA
    obtain rfl : i = 400 := by omega
    refine ex_iload_n ok2_X0_init (mi 8 rfl) rfl ?_
    refine ex_sipush ok2_X0_init (mi 9 rfl) ?_
    refine ex_icmp_ge (tgt := 42) ok2_X0_init (mi 10 rfl) rfl (fun h20 => ?_) (fun h20 => False.elim (h20 (nI_le (a := 400) (b := 400) (Nat.le_refl _) (by decide))))
    exact hq h hA
  | succ n ih =>
    intro i hi h hA
    have hzh : z < gx_Z h := by have := hA.1; omega
    refine ex_iload_n ok2_X0_init (mi 8 rfl) rfl ?_
    refine ex_sipush ok2_X0_init (mi 9 rfl) ?_
    refine ex_icmp_ge (tgt := 42) ok2_X0_init (mi 10 rfl) rfl (fun h20 => False.elim (nI_ge (a := i) (b := 400) (by omega) (by decide) h20)) (fun h20 => ?_)
    refine ex_aload_n ok2_X0_init (mi 11 rfl) rfl ?_
    refine ex_getRx ok2_X0_init (mi 12 rfl) rfl rfl (kg hA.2.1.1 haz hk) hA.2.2.1 hA.2.2.2.1 (by decide) ?_
    refine ex_iload_n ok2_X0_init (mi 13 rfl) rfl ?_
    refine ex_new ok2_X0_init (mi 14 rfl) rfl (by decide) (by omega) (by rw [show cx_N 6 = 9 from rfl]; omega) ?_
    rw [show cx_N 6 = 9 from rfl]
    refine ex_dup ok2_X0_init (mi 15 rfl) rfl ?_
    refine ex_callINp ok2_X0_init (mi 16 rfl) rfl (m_X6_init hst kNew zNew) rfl (List.mem_of_getElem? (i := 0) rfl) rfl rfl rfl (by decide) (Nat.le_of_ble_eq_true rfl) ⟨by omega, by omega⟩ (fun g9 e9 => ?_)
    subst e9
    refine ex_aast ok2_X0_init (mi 17 rfl) (n := 0) (by decide) (((msg_new (h := h)).2.1 z hzh).1.trans hA.2.2.2.1) (kg (gr_X6_init _ _) zNew kNew) (by rw [((msg_new (h := h)).2.1 z hzh).2.1, hA.2.2.2.2.1]; exact vp_in_nI (by omega) (by decide)) ?_
    refine ex_iinc ok2_X0_init (mi 18 rfl) rfl ?_
    refine ex_goto (tgt := 16) ok2_X0_init (mi 19 rfl) rfl ?_
    rw [nI_clamp (by omega), show 804 - 2 * i - 1 - 1 = 804 - 2 * (i + 1) by omega, show 10050 - 25 * i - 9 - 16 = 10050 - 25 * (i + 1) by omega]
    exact ex_ls (ls' := [(0, .ref a), (1, .int (nI (i + 1)))]) ⟨rfl, by rw [nI_succ]; rfl, trivial⟩ (ih (i + 1) (by omega) _ (AI_step hz ha hA))
def AirNew (g : GT) (a : Nat) (g1 : GT) : Prop := AI g a (gx_Z g) 402 g1 ∧ gx_R g1 1 a = gx_Z g + 801 ∧ gx_R g1 2 a = gx_Z g + 803
theorem AI_0 {g : GT} {a : Nat} (ha : a < gx_Z g) : AI g a (gx_Z g) 0 (px_R (px_N g 53 400) 0 a (gx_Z g)) := by
  refine ⟨rfl, gwN.trans gwR, ?_, if_pos rfl, if_pos rfl, fun j hj => absurd hj (Nat.not_lt_zero _), fun j hj => absurd hj (Nat.not_lt_zero _)⟩
  rw [gxR_R, if_pos ⟨rfl, rfl⟩]
theorem m_X0_init {G : GE} (hst : (ge_l G).stackTraces = false) {a : Nat} {g : GT} (hk : gx_K g a = 1) (hz : a < gx_Z g) : ex_M G 2 805 10450 my_X0_init [.ref a] g (fun r g1 => r = .inl none ∧ AirNew g a g1) := by
  refine ex_M_of ok2_X0_init cw2_X0_init rfl hst (Nat.le_of_ble_eq_true rfl) ?_
  refine ex_aload_n ok2_X0_init (mi 0 rfl) rfl ?_
  refine ex_objInit ok2_X0_init (mi 1 rfl) rfl (Nat.le_of_ble_eq_true rfl) ?_
  refine ex_aload_n ok2_X0_init (mi 2 rfl) rfl ?_
  refine ex_sipush ok2_X0_init (mi 3 rfl) ?_
  refine ex_anew2 (n := 0) (N := 400) ok2_X0_init (mi 4 rfl) rfl (by decide) (by decide) (by decide) (by decide) (by omega) (by omega) ?_
  refine ex_putRx ok2_X0_init (mi 5 rfl) rfl (kg (grN gr0) hz hk) rfl kNew (by decide) ?_
  refine ex_iconst ok2_X0_init (mi 6 rfl) ?_
  refine ex_istore_n ok2_X0_init (mi 7 rfl) ?_
  refine ex_ls (ls' := [(0, .ref a), (1, .int (nI 0))]) ⟨rfl, rfl, trivial⟩ (lp_X0_init hst rfl hz hk (fun h hA => ?_) 400 0 rfl _ (AI_0 hz))
  have e0 := hA.1
  refine ex_aload_n ok2_X0_init (mi 20 rfl) rfl ?_
  refine ex_new ok2_X0_init (mi 21 rfl) rfl (by decide) (by omega) (by rw [show cx_N 6 = 9 from rfl]; omega) ?_
  rw [show cx_N 6 = 9 from rfl]
  refine ex_dup ok2_X0_init (mi 22 rfl) rfl ?_
  refine ex_callINp ok2_X0_init (mi 23 rfl) rfl (m_X6_init hst kNew zNew) rfl (List.mem_of_getElem? (i := 0) rfl) rfl rfl rfl (by decide) (Nat.le_of_ble_eq_true rfl) ⟨by omega, by omega⟩ (fun g9 e9 => ?_)
  subst e9
  refine ex_putRx ok2_X0_init (mi 24 rfl) rfl (((msg_new (h := h)).2.1 a (by omega)).1.trans (kg hA.2.1.1 hz hk)) rfl (kg (gr_X6_init _ _) zNew kNew) (by decide) ?_
  obtain ⟨hB, b1, b2⟩ := AI_field (f := 1) (by decide) (Nat.le_refl _) rfl hz hA
  have e1 := hB.1
  generalize hgg : px_R (F_X6_init (px_N h 7 0) (gx_Z h)) 1 a (gx_Z h) = h9 at hB b1 b2 e1
  refine ex_aload_n ok2_X0_init (mi 25 rfl) rfl ?_
  refine ex_new ok2_X0_init (mi 26 rfl) rfl (by decide) (by omega) (by rw [show cx_N 6 = 9 from rfl]; omega) ?_
  rw [show cx_N 6 = 9 from rfl]
  refine ex_dup ok2_X0_init (mi 27 rfl) rfl ?_
  refine ex_callINp ok2_X0_init (mi 28 rfl) rfl (m_X6_init hst kNew zNew) rfl (List.mem_of_getElem? (i := 0) rfl) rfl rfl rfl (by decide) (Nat.le_of_ble_eq_true rfl) ⟨by omega, by omega⟩ (fun g9 e9 => ?_)
  subst e9
  refine ex_putRx ok2_X0_init (mi 29 rfl) rfl (((msg_new (h := h9)).2.1 a (by omega)).1.trans (kg hB.2.1.1 hz hk)) rfl (kg (gr_X6_init _ _) zNew kNew) (by decide) ?_
  refine ex_vret ok2_X0_init (mi 30 rfl) rfl ?_
  obtain ⟨hC, c1, c2⟩ := AI_field (f := 2) (by decide) (by decide) rfl hz hB
  exact ⟨rfl, hC, (c1 1 (by decide)).trans (b2.trans (by omega)), c2.trans (by omega)⟩
