/-! ===== methods and calls ===== -/
abbrev tb_G : List Cond := lw_tbl.filter goodWord
theorem tb_in {w : Cond} (h : w ∈ lw_tbl) (hg : goodWord w = true) : w ∈ tb_G := List.mem_filter.mpr ⟨h, hg⟩
theorem tb_good {ws : List Cond} (h : ∀ w ∈ ws, w ∈ tb_G) : GoodIn tb_G ws := fun w hw => ⟨h w hw, good_of_word (List.mem_filter.mp (h w hw)).2⟩
def ex_rm (d mc ms : Nat) : Room := { frames := d + 8, cells := mc, slots := ms, locals := 60 * (d + 8) }
abbrev ex_ws (w : Cond) : List Cond := w :: tb_G
abbrev ex_Pc (G : GE) (argv : List Value) (g : GT) : Array Value → State → Prop := va_Pc argv (fun U => gx_H G U g U.heap ∧ cx_K G U)
/-- y, called with argv in a heap that is g, comes back with Q -/
def ex_M (G : GE) (d mc ms : Nat) (y : MethodName) (argv : List Value) (g : GT) (Q : RT → GT → Prop) : Prop :=
  ∃ (bytes : ByteArray) (maxL : Nat) (ret : Option FieldType), Cond.code y bytes maxL ret ∈ lw_tbl ∧ maxL ≤ 40 ∧ vx_Met (ge_l G) y (ex_ws (.code y bytes maxL ret)) (ex_rm d mc ms) (ex_Pc G argv g) (ex_Qc G Q) (ex_XC G Q) mc ms (fun q => ge_b G ≤ q)
theorem cx_K.warm {G : GE} {s U : State} (hW : s.WarmedH U.vm) (h : cx_K G s) : cx_K G U := by
  obtain ⟨h1, h2, h3, a1, a2, a3, a4, h4, b1, b2, b3⟩ := h
  refine ⟨h1.moved hW.alike, fun w hw => ?_, fun q hq => ?_, a1.moved hW.alike, a2.moved hW.alike, a3.moved hW.alike, a4.moved hW.alike, fun w hw => ?_, b1.moved hW.alike, b2.moved hW.alike, b3.moved hW.alike⟩
  · have h := h2 w hw
    simp only [cx_nest, List.mem_cons, List.not_mem_nil, or_false] at hw
    rcases hw with rfl | rfl | rfl | rfl | rfl | rfl | rfl | rfl | rfl | rfl | rfl | rfl <;> exact va_Nw.warmM hW h
  · obtain ⟨sa, hs⟩ := h3 q hq
    exact ⟨sa, vk_R.warm hW hs⟩
  · have h := h4 w hw
    simp only [cx_face, List.mem_cons, List.not_mem_nil, or_false] at hw
    rcases hw with rfl | rfl | rfl | rfl | rfl | rfl <;> exact va_tabs rfl (rfl : (s.setVm U.vm).vm = U.vm) (Cond.before_shiftedFace (args := #[]) (State.Shifted.of_warmed hW) _ rfl h)
theorem ex_blind {G : GE} {argv : List Value} {g : GT} : FrameBlind (ex_Pc G argv g) := by
  intro a U f mk ⟨h1, h2, h3⟩
  exact ⟨h1, h2.moved (u := U) (U := U.calling f mk a) (Vm.Alike.refl U.vm), cx_K.warm (s := U) (U := U.calling f mk a) (State.WarmedH.refl U) h3⟩
theorem ex_M_of {G : GE} {d mc ms : Nat} {M : MT} {argv : List Value} {g : GT} {Q : RT → GT → Prop} (hM : mt_ok M = true) (hcode : Cond.code (mt_y M) (mt_b M) (mt_l M) (mt_r M) ∈ lw_tbl) (hh : mt_h M = []) (hst : (ge_l G).stackTraces = false) (hlen : (lg_sl argv).length ≤ mt_l M)
    (h : ex_W G d mc ms M 0 (lv_args 0 argv) [] g Q) : ex_M G d mc ms (mt_y M) argv g Q := by
  obtain ⟨-, -, -, -, h40, hpl, -⟩ := mt_ok_spec hM
  refine ⟨mt_b M, mt_l M, mt_r M, hcode, h40, vx_ofW (cc := mt_b M) (maxL := mt_l M) (ret := mt_r M) hpl rfl ?_⟩
  intro p e s m args below meth c s₁ B hml ht hv
  obtain ⟨rfl, hH, hK⟩ := hv
  have hts := atoms_spec (ws := ex_ws (.code (mt_y M) (mt_b M) (mt_l M) (mt_r M))) B.pre
  have hC : cx_C G M p s m argv.toArray meth c := ⟨B.exec, B.bytes, hml, findClass_of_methodNamed B.named, fun w hw hg => hts w (List.mem_cons_of_mem _ (tb_in hw hg)), B.returns, B.notSynchronized, (name_of_methodNamed B.named B.method).1, by
    rw [hh]
    exact List.eq_nil_iff_forall_not_mem.mpr (fun x hx => ht x hx), hK, hst, by rw [hH.1]; exact hH.2.1.2⟩
  rw [lg_entry_eq]
  exact h p e _ s m _ below meth c s.heap [] 0 0 mc ms _ hC ⟨Nat.le_refl _, Nat.le_refl _⟩ ⟨by omega, by omega, Nat.le_refl _, Nat.le_refl _⟩ hH (lv_entry argv hlen) (fun z hz => nomatch hz)
theorem ex_M.mono {G : GE} {d mc ms : Nat} {y : MethodName} {argv : List Value} {g : GT} {Q Q' : RT → GT → Prop} (h : ex_M G d mc ms y argv g Q) (hq : ∀ r g', Q r g' → Q' r g') : ex_M G d mc ms y argv g Q' := by
  obtain ⟨bytes, maxL, ret, h1, h2, h3⟩ := h
  refine ⟨bytes, maxL, ret, h1, h2, fun p e a1 a2 a3 s m args below a4 a5 a6 a7 => ?_⟩
  obtain ⟨n, o, b1, b2, b3, b4⟩ := h3 p e a1 a2 a3 s m args below a4 a5 a6 a7
  refine ⟨n, o, b1, b2, b3, ?_⟩
  rcases b4 with ⟨⟨v, g', c1, c2, c3⟩, c4⟩ | ⟨q, c1, E, ce, L, ⟨g', c2, c3⟩, c4⟩
  · exact Or.inl ⟨⟨v, g', c1, hq _ _ c2, c3⟩, c4⟩
  · exact Or.inr ⟨q, c1, E, ce, L, ⟨g', hq _ _ c2, c3⟩, c4⟩
/-- a callee that never throws, as the kit's rows for such take it -/
theorem ex_M.met {G : GE} {mc ms : Nat} {y : MethodName} {ws : List Cond} {rm : Room} {Pc : Array Value → State → Prop} {Q : RT → GT → Prop} {free : Addr → Prop} (h : vx_Met (ge_l G) y ws rm Pc (ex_Qc G Q) (ex_XC G Q) mc ms free) (hq : ∀ E g', ¬ Q (.inr E) g') : Met (ge_l G) y ws rm Pc (ex_Qc G Q) mc ms free := by
  intro p e a1 a2 a3 s m args below a4 a5 a6 a7
  obtain ⟨n, o, b1, b2, b3, b4⟩ := h p e a1 a2 a3 s m args below a4 a5 a6 a7
  refine ⟨n, o, b1, b2, b3, ?_⟩
  rcases b4 with b4 | ⟨q, c1, E, ce, L, ⟨g', c2, c3⟩, c4⟩
  · exact b4
  · exact absurd c2 (hq E g')
section EC
variable {G : GE} {d mc ms : Nat} {M : MT} {pc : Nat} {ls : List (Nat × Value)} {st : List Value} {g : GT} {Q : RT → GT → Prop}
theorem mt_min {idx n t d1 mc1 ms1 : Nat} {y : MethodName} (hp : (mt_m M).lookup idx = some (y, n, t, d1, mc1, ms1)) {w : Cond} (hw : w ∈ mt_mw (mt_y M).cls (idx, y, n, t, d1, mc1, ms1)) : w ∈ mt_need M :=
  List.mem_append_left _ (List.mem_append_left _ (List.mem_append_right _ (List.mem_flatMap.mpr ⟨_, mt_mem hp, hw⟩)))
theorem mt_mok (hM : mt_ok M = true) {idx n t d1 mc1 ms1 : Nat} {y : MethodName} (hp : (mt_m M).lookup idx = some (y, n, t, d1, mc1, ms1)) : y.cls ≠ "java/lang/invoke/MethodHandle" ∧ y.cls ≠ "java/lang/invoke/VarHandle" ∧ (parseMethodDescriptor y.desc).map (fun d => d.parameters.length) = some n := ((mt_ok_spec hM).2.2.2.1 _ (mt_mem hp)).2
/-- what a call's run gives back, both ways -/
theorem ex_back {mc1 ms1 : Nat} {Q1 : RT → GT → Prop} {p : Program} {e : Env} {R : Room} {s : State} {m : MethodId} {args : Array Value} {below : List Frame} {meth : Method} {c : Code} {H : Heap} {locs : List Loc} {cells slots MC MS : Nat} {L : Array Slot} {st0 : List Value} {a : Array Value}
    (hC : cx_C G M p s m args meth c) (hR : d + 8 ≤ R.frames ∧ 60 * (d + 8) ≤ R.locals) (hB : cells + mc ≤ MC ∧ slots + ms ≤ MS ∧ MC ≤ R.cells ∧ MS ≤ R.slots) (hl : lv_has L (mt_l M) ls) (hz : ∀ z ∈ locs, ge_b G ≤ z.base) (hm : mc1 ≤ mc ∧ ms1 ≤ ms) (hh : mt_h M = [])
    (hr : vx_Run p (ge_l G) e R s m args below meth c H locs cells slots mc1 ms1 (F0 m pc L st0) st (ex_Qc G Q1 a) (ex_XC G Q1) (fun q => ge_b G ≤ q))
    (k1 : ∀ v g', Q1 (.inl v) g' → ex_W G d (mc - mc1) (ms - ms1) M (pc + 3) ls (v.toList ++ st) g' Q) (k2 : ∀ E g', Q1 (.inr E) g' → Q (.inr E) g') :
    W p (ge_l G) e R s m args below meth c H locs cells slots (vx_MQ below (ex_Qc G Q) (ex_XC G Q) args s MC MS (fun q => ge_b G ≤ q)) (F0 m pc L st0) := by
  intro T hT X
  have hzL : ∀ {L' : List Loc}, (∀ q ∈ L', ge_b G ≤ q.base) → ∀ q ∈ locs ++ L', ge_b G ≤ q.base := fun hL => t_lL (free := fun q => ge_b G ≤ q) hz hL
  rcases hr T hT X with ⟨v, st₀, t, T', L', h0, X', hL, e1, e2, ⟨v', g', hv, hq, hH⟩, go⟩ | ⟨q, st₀, t, T', L', E, ce, h0, X', hL, e1, e2, ⟨g', hq, hH⟩, hce, hcv, hcl, go⟩
  · cases hv
    have hal : t.vm.Alike s.vm := by rw [← e2]; exact X'.warmed.alike.symm
    obtain ⟨t2, a1, b1⟩ := k1 v g' hq p e R s m args below meth c T'.heap (locs ++ L') (cells + mc1) (slots + ms1) MC MS L hC hR (by omega) (by rw [e1]; exact hH.moved hal) hl (hzL hL) T' rfl X'
    exact ⟨t2, go t2 a1, b1⟩
  · have ho : vx_W p (ge_l G) e R s m args below meth c T'.heap (locs ++ L') (cells + mc1) (slots + ms1) (vx_MQ below (ex_Qc G Q) (ex_XC G Q) args s MC MS (fun q => ge_b G ≤ q)) (F0 m pc L st) q :=
      vx_out (fun x hx => by rw [hC.2.2.2.2.2.2.2.2.1, hh] at hx; cases hx) hC.2.2.2.2.2.2.1 (by rw [e1]; exact hce) hcv hcl (fun t9 ht9 hal9 => ⟨g', k2 E g' hq, by
        rw [ht9, e1]
        have hal : t.vm.Alike s.vm := by rw [← e2]; exact X'.warmed.alike.symm
        exact (hH.moved hal).moved hal9⟩) (hzL hL) (by omega) (by omega)
    obtain ⟨t2, a1, b1⟩ := ho T' rfl X'
    exact ⟨t2, go.trans a1, b1⟩
theorem ex_callV {idx n t d1 mc1 ms1 b : Nat} {y : MethodName} {As : List Value} {Q1 : RT → GT → Prop} (hM : mt_ok M = true) (hf : mt_in M pc (.invokevirtual idx) 3) (hp : (mt_m M).lookup idx = some (y, n, t, d1, mc1, ms1)) (ht : 10 ≤ t) (hh : mt_h M = []) (hd : d1 < d) (hlen : As.length = n)
    (hk : gx_K g b = t - 10 + 1) (hcat : (st.map fun v => v.category).sum ≤ 8) (hm : mc1 ≤ mc ∧ ms1 ≤ ms) (hcall : ex_M G d1 mc1 ms1 y (.ref b :: As) g Q1)
    (k1 : ∀ v g', Q1 (.inl v) g' → ex_W G d (mc - mc1) (ms - ms1) M (pc + 3) ls (v.toList ++ st) g' Q) (k2 : ∀ E g', Q1 (.inr E) g' → Q (.inr E) g') : ex_W G d mc ms M pc ls (As.reverse ++ .ref b :: st) g Q := by
  intro p e R s m args9 below meth c H locs cells slots MC MS L hC hR hB hH hl hz
  obtain ⟨bytes, maxL, ret, hcode, h40, hmet⟩ := hcall
  obtain ⟨hd1, hd2, hd3⟩ := mt_mok hM hp
  obtain ⟨ci, hci, rfl, hy⟩ : ∃ ci, ci < 13 ∧ t = 10 + ci ∧ y.cls = cx_R ci := by
    rcases ((mt_ok_spec hM).2.2.2.1 _ (mt_mem hp)).1 with h | ⟨h, h2⟩
    · dsimp only at h; omega
    · dsimp only at h h2
      exact ⟨t - 10, by omega, by omega, h2⟩
  have hk : gx_K g b = ci + 1 := by omega
  have hts : ∀ w ∈ tb_G, w.before args9 s = true := fun w hw => hC.2.2.2.2.1 w (List.mem_filter.mp hw).1 (List.mem_filter.mp hw).2
  have hneed : ∀ w ∈ mt_mw (mt_y M).cls (idx, y, n, 10 + ci, d1, mc1, ms1), w ∈ tb_G := fun w hw => tb_in ((mt_ok_spec hM).2.1 w (mt_min hp hw)).1 ((mt_ok_spec hM).2.1 w (mt_min hp hw)).2
  have hgood : GoodIn tb_G (wsV (mt_y M).cls idx y.cls y (ex_ws (.code y bytes maxL ret))) := tb_good (fun w hw => by
    rcases List.mem_append.mp hw with h | h
    · exact hneed w (by
        have e : mt_mw (mt_y M).cls (idx, y, n, 10 + ci, d1, mc1, ms1) = [.methodLink (mt_y M).cls idx y, .instanceMethod y, .selects y.cls y y, .initialized y.cls] := by
          unfold mt_mw
          split <;> first | (rename_i h9; dsimp only at h9; omega) | rfl
        rw [e]
        exact h)
    · rcases List.mem_cons.mp h with rfl | h
      · exact tb_in hcode rfl
      · exact h)
  obtain ⟨hc, -, -⟩ := cx_facts ci hci
  obtain ⟨r, hr, cell, q1, q2, q3, -⟩ := (hH.2.2.2.1 b (by omega)).1 ci hk hci
  have hKn := hC.2.2.2.2.2.2.2.2.2.1.1.1 ci _ hc
  refine ex_back (a := (Value.ref b :: As).toArray) hC hR hB hl hz hm hh (vx_runV (As := As) (rest := st) (nL := mt_l M) ⟨hC.1, hC.2.1, hC.2.2.1, hC.2.2.2.1, hts⟩ hmet (cwV n hts hgood rfl rfl rfl ⟨rfl, hd1, hd2, hd3⟩ ?_) ⟨ex_blind, ⟨cell, q1, by rw [q3]; rfl, by rw [hy, q2]; exact hKn.2.1⟩, fun U hU hW => ⟨rfl, by rw [hU]; exact hH.moved hW.alike, cx_K.warm hW hC.2.2.2.2.2.2.2.2.2.1⟩⟩ rfl hlen hl.1 rfl (lv_room hcat) (mt_dec hM hf) (by omega)) k1 k2
  show d1 + 8 + 1 ≤ R.frames ∧ 8 + (maxL + 11) + 60 * (d1 + 8) ≤ R.locals
  omega
theorem ex_callS {idx n d1 mc1 ms1 : Nat} {y : MethodName} {As : List Value} {Q1 : RT → GT → Prop} (hM : mt_ok M = true) (hf : mt_in M pc (.invokestatic idx) 3) (hp : (mt_m M).lookup idx = some (y, n, 1, d1, mc1, ms1)) (hh : mt_h M = []) (hd : d1 < d) (hlen : As.length = n)
    (hcat : (st.map fun v => v.category).sum ≤ 8) (hm : mc1 ≤ mc ∧ ms1 ≤ ms) (hcall : ex_M G d1 mc1 ms1 y As g Q1)
    (k1 : ∀ v g', Q1 (.inl v) g' → ex_W G d (mc - mc1) (ms - ms1) M (pc + 3) ls (v.toList ++ st) g' Q) (k2 : ∀ E g', Q1 (.inr E) g' → Q (.inr E) g') : ex_W G d mc ms M pc ls (As.reverse ++ st) g Q := by
  intro p e R s m args9 below meth c H locs cells slots MC MS L hC hR hB hH hl hz
  obtain ⟨bytes, maxL, ret, hcode, h40, hmet⟩ := hcall
  have hts : ∀ w ∈ tb_G, w.before args9 s = true := fun w hw => hC.2.2.2.2.1 w (List.mem_filter.mp hw).1 (List.mem_filter.mp hw).2
  have hgood : GoodIn tb_G (ex_ws (.code y bytes maxL ret)) := tb_good (fun w hw => by
    rcases List.mem_cons.mp hw with rfl | h
    · exact tb_in hcode rfl
    · exact h)
  have w1 := mt_wd hM hC (mt_min hp (w := .methodLink (mt_y M).cls idx y) (by simp [mt_mw]))
  have w2 := mt_wd hM hC (mt_min hp (w := .static y) (by simp [mt_mw]))
  have w3 := mt_wd hM hC (mt_min hp (w := .initialized y.cls) (by simp [mt_mw]))
  refine ex_back (a := As.toArray) hC hR hB hl hz hm hh (vx_runS (As := As) (rest := st) (nL := mt_l M) ⟨hC.1, hC.2.1, hC.2.2.1, hC.2.2.2.1, hts⟩ hmet ⟨callB_of n hts hgood rfl rfl rfl w3 w1 (mt_mok hM hp) ?_, w2⟩ ⟨ex_blind, fun U hU hW => ⟨rfl, by rw [hU]; exact hH.moved hW.alike, cx_K.warm hW hC.2.2.2.2.2.2.2.2.2.1⟩⟩ rfl hlen hl.1 rfl (lv_room hcat) (mt_dec hM hf) (by omega)) k1 k2
  show d1 + 8 + 1 ≤ R.frames ∧ 8 + (maxL + 11) + 60 * (d1 + 8) ≤ R.locals
  omega
/-- a run of the kit's rows for callees that never throw, as one that could -/
theorem ex_quiet {Q1 : RT → GT → Prop} {p : Program} {e : Env} {R : Room} {s : State} {m : MethodId} {args : Array Value} {below : List Frame} {meth : Method} {c : Code} {H : Heap} {locs : List Loc} {cells slots mc1 ms1 : Nat} {f : JFrame} {rest : List Value} {a : Array Value}
    (h : va_Run p (ge_l G) e R s m args below meth c H locs cells slots mc1 ms1 f rest (ex_Qc G Q1 a) (fun q => ge_b G ≤ q)) : vx_Run p (ge_l G) e R s m args below meth c H locs cells slots mc1 ms1 f rest (ex_Qc G Q1 a) (ex_XC G Q1) (fun q => ge_b G ≤ q) :=
  fun T hT X => Or.inl (h T hT X)
theorem ex_callSN {idx n d1 mc1 ms1 : Nat} {y : MethodName} {As : List Value} {Q1 : RT → GT → Prop} (hM : mt_ok M = true) (hf : mt_in M pc (.invokestatic idx) 3) (hp : (mt_m M).lookup idx = some (y, n, 4, d1, mc1, ms1)) (hh : mt_h M = []) (hd : d1 < d) (hlen : As.length = n) (hnest : Cond.methodLinkNest (mt_y M).cls idx y "RoundKeepers" ∈ cx_nest)
    (hcat : (st.map fun v => v.category).sum ≤ 8) (hm : mc1 ≤ mc ∧ ms1 ≤ ms) (hcall : ex_M G d1 mc1 ms1 y As g Q1) (hq : ∀ E g', ¬ Q1 (.inr E) g')
    (k1 : ∀ v g', Q1 (.inl v) g' → ex_W G d (mc - mc1) (ms - ms1) M (pc + 3) ls (v.toList ++ st) g' Q) : ex_W G d mc ms M pc ls (As.reverse ++ st) g Q := by
  intro p e R s m args9 below meth c H locs cells slots MC MS L hC hR hB hH hl hz
  obtain ⟨bytes, maxL, ret, hcode, h40, hmet⟩ := hcall
  have hts : ∀ w ∈ tb_G, w.before args9 s = true := fun w hw => hC.2.2.2.2.1 w (List.mem_filter.mp hw).1 (List.mem_filter.mp hw).2
  have hgood : GoodIn tb_G (ex_ws (.code y bytes maxL ret)) := tb_good (fun w hw => by
    rcases List.mem_cons.mp hw with rfl | h
    · exact tb_in hcode rfl
    · exact h)
  have w2 := mt_wd hM hC (mt_min hp (w := .static y) (by simp [mt_mw]))
  have w3 := mt_wd hM hC (mt_min hp (w := .initialized y.cls) (by simp [mt_mw]))
  refine ex_back (a := As.toArray) hC hR hB hl hz hm hh (ex_quiet (va_runSN (As := As) (rest := st) (nL := mt_l M) ⟨hC.1, hC.2.1, hC.2.2.1, hC.2.2.2.1, hts⟩ (ex_M.met hmet hq) ⟨va_cnB n hts hgood rfl rfl rfl (hC.2.2.2.2.2.2.2.2.2.1.2.1 _ hnest) w3 (mt_mok hM hp) ?_, w2, trivial⟩ ⟨ex_blind, fun U hU hW => ⟨rfl, by rw [hU]; exact hH.moved hW.alike, cx_K.warm hW hC.2.2.2.2.2.2.2.2.2.1⟩⟩ rfl hlen hl.1 rfl (lv_room hcat) (mt_dec hM hf) (by omega))) k1 (fun E g' h => absurd h (hq E g'))
  show d1 + 8 + 1 ≤ R.frames ∧ 8 + (maxL + 11) + 60 * (d1 + 8) ≤ R.locals
  omega
end EC
