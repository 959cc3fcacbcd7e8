/-! ===== methods with an exception table ===== -/
def ex_MH (G : GE) (d mc ms : Nat) (y : MethodName) (argv : List Value) (g : GT) (Q : RT → GT → Prop) : Prop :=
  ∃ (bytes : ByteArray) (maxL : Nat) (ret : Option FieldType) (hh : List (Nat × Nat × Nat × Nat)), Cond.codeWith y bytes maxL ret hh ∈ lw_tbl ∧ maxL ≤ 40 ∧ vx_Met (ge_l G) y (ex_ws (.codeWith y bytes maxL ret hh)) (ex_rm d mc ms) (ex_Pc G argv g) (ex_Qc G Q) (ex_XC G Q) mc ms (fun q => ge_b G ≤ q)
theorem ex_MH_of {G : GE} {d mc ms : Nat} {M : MT} {argv : List Value} {g : GT} {Q : RT → GT → Prop} (hM : mt_ok M = true) (hcode : Cond.codeWith (mt_y M) (mt_b M) (mt_l M) (mt_r M) (mt_h M) ∈ lw_tbl) (hst : (ge_l G).stackTraces = false) (hlen : (lg_sl argv).length ≤ mt_l M)
    (h : ex_W G d mc ms M 0 (lv_args 0 argv) [] g Q) : ex_MH G d mc ms (mt_y M) argv g Q := by
  obtain ⟨-, -, -, -, h40, hpl, -⟩ := mt_ok_spec hM
  refine ⟨mt_b M, mt_l M, mt_r M, mt_h M, hcode, h40, vx_ofWH (cc := mt_b M) (maxL := mt_l M) (ret := mt_r M) (hh := mt_h M) hpl rfl ?_⟩
  intro p e s m args below meth c s₁ B hml hv
  obtain ⟨rfl, hH, hK⟩ := hv
  have hts := atoms_spec (ws := ex_ws (.codeWith (mt_y M) (mt_b M) (mt_l M) (mt_r M) (mt_h M))) B.pre
  have hC : cx_C G M p s m argv.toArray meth c := ⟨B.exec, B.bytes, hml, findClass_of_methodNamed B.named, fun w hw hg => hts w (List.mem_cons_of_mem _ (tb_in hw hg)), B.returns, B.notSynchronized, (name_of_methodNamed B.named B.method).1, vx_table (x := mt_y M) B (hts _ List.mem_cons_self), hK, hst, by rw [hH.1]; exact hH.2.1.2⟩
  rw [lg_entry_eq]
  exact h p e _ s m _ below meth c s.heap [] 0 0 mc ms _ hC ⟨Nat.le_refl _, Nat.le_refl _⟩ ⟨by omega, by omega, Nat.le_refl _, Nat.le_refl _⟩ hH (lv_entry argv hlen) (fun z hz => nomatch hz)
def hx_e (q : Nat × Nat × Nat × Nat) : ExceptionTableEntry := ⟨q.1, q.2.1, q.2.2.1, q.2.2.2⟩
def hx_w (own : String) (q : Nat × Nat × Nat × Nat) (e : Nat) : Bool := decide (q.2.2.2 ≠ 0) && (goodWord (Cond.classLink own q.2.2.2 (cx_E e)) && decide (Cond.classLink own q.2.2.2 (cx_E e) ∈ lw_tbl))
/-- the table's row x takes exception e that comes at pc, the rows before it don't -/
def hx_ok (M : MT) (pc e : Nat) (pre : List ((Nat × Nat × Nat × Nat) × Nat)) (x : Nat × Nat × Nat × Nat) (suf : List (Nat × Nat × Nat × Nat)) : Bool :=
  decide (mt_h M = pre.map (fun q => q.1) ++ x :: suf) && (pre.all (fun q => !covers (hx_e q.1) pc || (hx_w (mt_y M).cls q.1 q.2 && decide ((e, q.2) ∈ [(101, 100), (102, 100), (102, 101)]))) && (covers (hx_e x) pc && (hx_w (mt_y M).cls x e && decide (e ∈ [100, 101, 102]))))
theorem hx_and {a b : Bool} (h : (a && b) = true) : a = true ∧ b = true := by cases a <;> cases b <;> simp_all
theorem hx_or {a b : Bool} (h : (!a || b) = true) : a = false ∨ b = true := by cases a <;> cases b <;> simp_all
section EH
variable {G : GE} {d mc ms : Nat} {M : MT} {pc : Nat} {ls : List (Nat × Value)} {st : List Value} {g : GT} {Q : RT → GT → Prop}
theorem hx_link {own : String} {q : Nat × Nat × Nat × Nat} {e : Nat} (h : hx_w own q e = true) : q.2.2.2 ≠ 0 ∧ goodWord (Cond.classLink own q.2.2.2 (cx_E e)) = true ∧ Cond.classLink own q.2.2.2 (cx_E e) ∈ lw_tbl := by
  simp only [hx_w, Bool.and_eq_true, decide_eq_true_eq] at h
  exact h
theorem hx_not {p : Program} {s : State} {m : MethodId} {args : Array Value} {meth : Method} {c : Code} (hC : cx_C G M p s m args meth c) {e e1 : Nat} (h : (e, e1) ∈ [(101, 100), (102, 100), (102, 101)]) : va_Nc (cx_E e) (cx_E e1) s := by
  have hK := hC.2.2.2.2.2.2.2.2.2.1.2.2.2.2.2.2.2.2
  simp only [List.mem_cons, List.not_mem_nil, or_false, Prod.mk.injEq] at h
  rcases h with ⟨rfl, rfl⟩ | ⟨rfl, rfl⟩ | ⟨rfl, rfl⟩
  · exact hK.1
  · exact hK.2.1
  · exact hK.2.2
theorem hx_cast {p : Program} {s : State} {m : MethodId} {args : Array Value} {meth : Method} {c : Code} (hC : cx_C G M p s m args meth c) {e : Nat} (h : e ∈ [100, 101, 102]) : (Cond.castable (cx_E e) (cx_E e)).before args s = true := by
  have hK := hC.2.2.2.2.2.2.2.2.2.1.2.2.2.2.2.2.2.1
  simp only [List.mem_cons, List.not_mem_nil, or_false] at h
  rcases h with rfl | rfl | rfl <;> exact va_Nw.use rfl (hK _ (by simp [cx_face]))
/-- what a call's run gives back, in a method with a table -/
theorem ex_backH {mc1 ms1 : Nat} {Q1 : RT → GT → Prop} {p : Program} {e : Env} {R : Room} {s : State} {m : MethodId} {args : Array Value} {below : List Frame} {meth : Method} {c : Code} {H : Heap} {locs : List Loc} {cells slots MC MS : Nat} {L : Array Slot} {st0 : List Value} {a : Array Value}
    (hC : cx_C G M p s m args meth c) (hR : d + 8 ≤ R.frames ∧ 60 * (d + 8) ≤ R.locals) (hB : cells + mc ≤ MC ∧ slots + ms ≤ MS ∧ MC ≤ R.cells ∧ MS ≤ R.slots) (hl : lv_has L (mt_l M) ls) (hz : ∀ z ∈ locs, ge_b G ≤ z.base) (hm : mc1 ≤ mc ∧ ms1 ≤ ms)
    (hr : vx_Run p (ge_l G) e R s m args below meth c H locs cells slots mc1 ms1 (F0 m pc L st0) st (ex_Qc G Q1 a) (ex_XC G Q1) (fun q => ge_b G ≤ q))
    (k1 : ∀ v g', Q1 (.inl v) g' → ex_W G d (mc - mc1) (ms - ms1) M (pc + 3) ls (v.toList ++ st) g' Q)
    (k2 : ∀ E g', Q1 (.inr E) g' → ∃ e1 pre x suf, E = cx_E e1 ∧ hx_ok M pc e1 pre x suf = true ∧ ∀ q : Nat, ex_W G d (mc - mc1) (ms - ms1) M x.2.2.1 ls [.ref q] g' Q) :
    W p (ge_l G) e R s m args below meth c H locs cells slots (vx_MQ below (ex_Qc G Q) (ex_XC G Q) args s MC MS (fun q => ge_b G ≤ q)) (F0 m pc L st0) := by
  intro T hT X
  have hzL : ∀ {L' : List Loc}, (∀ q ∈ L', ge_b G ≤ q.base) → ∀ q ∈ locs ++ L', ge_b G ≤ q.base := fun hL => t_lL (free := fun q => ge_b G ≤ q) hz hL
  rcases hr T hT X with ⟨v, st₀, t, T', L', h0, X', hL, e1, e2, ⟨v', g', hv, hq, hH⟩, go⟩ | ⟨q, st₀, t, T', L', E, ce, h0, X', hL, e1, e2, ⟨g', hq, hH⟩, hce, hcv, hcl, go⟩
  · cases hv
    have hal : t.vm.Alike s.vm := by rw [← e2]; exact X'.warmed.alike.symm
    obtain ⟨t2, a1, b1⟩ := k1 v g' hq p e R s m args below meth c T'.heap (locs ++ L') (cells + mc1) (slots + ms1) MC MS L hC hR (by omega) (by rw [e1]; exact hH.moved hal) hl (hzL hL) T' rfl X'
    exact ⟨t2, go t2 a1, b1⟩
  · obtain ⟨en, pre, x, suf, rfl, hx, kk⟩ := k2 E g' hq
    obtain ⟨x1, hx⟩ := hx_and hx
    obtain ⟨x2, hx⟩ := hx_and hx
    obtain ⟨x3, hx⟩ := hx_and hx
    obtain ⟨x4, x5⟩ := hx_and hx
    have x1 := of_decide_eq_true x1
    have x5 := of_decide_eq_true x5
    have x2 := List.all_eq_true.mp x2
    obtain ⟨y1, y2, y3⟩ := hx_link x4
    have hal : t.vm.Alike s.vm := by rw [← e2]; exact X'.warmed.alike.symm
    have ho : vx_W p (ge_l G) e R s m args below meth c T'.heap (locs ++ L') (cells + mc1) (slots + ms1) (vx_MQ below (ex_Qc G Q) (ex_XC G Q) args s MC MS (fun q => ge_b G ≤ q)) (F0 m pc L st) q := by
      refine cc_catch (own := (mt_y M).cls) (name := cx_E en) hC.2.2.2.1 (pre.map fun q => hx_e q.1) (hx_e x) (suf.map hx_e) ?_ ?_ x3 y1 (hC.2.2.2.2.1 _ y3 y2) (hx_cast hC x5) (by rw [e1]; exact hce) hcv hcl ?_
      · rw [hC.2.2.2.2.2.2.2.2.1, x1, tableOf, List.map_append, List.map_cons, List.map_map]
        rfl
      · intro z hz1
        obtain ⟨w, hw, rfl⟩ := List.mem_map.mp hz1
        have h9 := x2 w hw
        rcases hx_or h9 with h9 | h9
        · exact Or.inl h9
        · obtain ⟨h9, h8⟩ := hx_and h9
          have h8 := of_decide_eq_true h8
          obtain ⟨a1, a2, a3⟩ := hx_link h9
          exact Or.inr ⟨a1, cx_E w.2, hC.2.2.2.2.1 _ a3 a2, hx_not hC h8⟩
      · exact kk q p e R s m args below meth c T'.heap (locs ++ L') (cells + mc1) (slots + ms1) MC MS L hC hR (by omega) (by rw [e1]; exact hH.moved hal) hl (hzL hL)
    obtain ⟨t2, a1, b1⟩ := ho T' rfl X'
    exact ⟨t2, go.trans a1, b1⟩
theorem ex_callVH {idx n t d1 mc1 ms1 b : Nat} {y : MethodName} {As : List Value} {Q1 : RT → GT → Prop} (hM : mt_ok M = true) (hf : mt_in M pc (.invokevirtual idx) 3) (hp : (mt_m M).lookup idx = some (y, n, t, d1, mc1, ms1)) (ht : 10 ≤ t) (hd : d1 < d) (hlen : As.length = n)
    (hk : gx_K g b = t - 10 + 1) (hcat : (st.map fun v => v.category).sum ≤ 8) (hm : mc1 ≤ mc ∧ ms1 ≤ ms) (hcall : ex_M G d1 mc1 ms1 y (.ref b :: As) g Q1)
    (k1 : ∀ v g', Q1 (.inl v) g' → ex_W G d (mc - mc1) (ms - ms1) M (pc + 3) ls (v.toList ++ st) g' Q)
    (k2 : ∀ E g', Q1 (.inr E) g' → ∃ e1 pre x suf, E = cx_E e1 ∧ hx_ok M pc e1 pre x suf = true ∧ ∀ q : Nat, ex_W G d (mc - mc1) (ms - ms1) M x.2.2.1 ls [.ref q] g' Q) : ex_W G d mc ms M pc ls (As.reverse ++ .ref b :: st) g Q := by
  intro p e R s m args9 below meth c H locs cells slots MC MS L hC hR hB hH hl hz
  obtain ⟨bytes, maxL, ret, hcode, h40, hmet⟩ := hcall
  obtain ⟨hd1, hd2, hd3⟩ := mt_mok hM hp
  obtain ⟨ci, hci, rfl, hy⟩ : ∃ ci, ci < 13 ∧ t = 10 + ci ∧ y.cls = cx_R ci := by
    rcases ((mt_ok_spec hM).2.2.2.1 _ (mt_mem hp)).1 with h | ⟨h, h2⟩
    · dsimp only at h; omega
    · dsimp only at h h2
      exact ⟨t - 10, by omega, by omega, h2⟩
  have hk : gx_K g b = ci + 1 := by omega
  have hts : ∀ w ∈ tb_G, w.before args9 s = true := fun w hw => hC.2.2.2.2.1 w (List.mem_filter.mp hw).1 (List.mem_filter.mp hw).2
  have hneed : ∀ w ∈ mt_mw (mt_y M).cls (idx, y, n, 10 + ci, d1, mc1, ms1), w ∈ tb_G := fun w hw => tb_in ((mt_ok_spec hM).2.1 w (mt_min hp hw)).1 ((mt_ok_spec hM).2.1 w (mt_min hp hw)).2
  have hgood : GoodIn tb_G (wsV (mt_y M).cls idx y.cls y (ex_ws (.code y bytes maxL ret))) := tb_good (fun w hw => by
    rcases List.mem_append.mp hw with h | h
    · exact hneed w (by
        have e : mt_mw (mt_y M).cls (idx, y, n, 10 + ci, d1, mc1, ms1) = [.methodLink (mt_y M).cls idx y, .instanceMethod y, .selects y.cls y y, .initialized y.cls] := by
          unfold mt_mw
          split <;> first | (rename_i h9; dsimp only at h9; omega) | rfl
        rw [e]
        exact h)
    · rcases List.mem_cons.mp h with rfl | h
      · exact tb_in hcode rfl
      · exact h)
  obtain ⟨hc, -, -⟩ := cx_facts ci hci
  obtain ⟨r, hr, cell, q1, q2, q3, -⟩ := (hH.2.2.2.1 b (by omega)).1 ci hk hci
  have hKn := hC.2.2.2.2.2.2.2.2.2.1.1.1 ci _ hc
  refine ex_backH (a := (Value.ref b :: As).toArray) hC hR hB hl hz hm (vx_runV (As := As) (rest := st) (nL := mt_l M) ⟨hC.1, hC.2.1, hC.2.2.1, hC.2.2.2.1, hts⟩ hmet (cwV n hts hgood rfl rfl rfl ⟨rfl, hd1, hd2, hd3⟩ ?_) ⟨ex_blind, ⟨cell, q1, by rw [q3]; rfl, by rw [hy, q2]; exact hKn.2.1⟩, fun U hU hW => ⟨rfl, by rw [hU]; exact hH.moved hW.alike, cx_K.warm hW hC.2.2.2.2.2.2.2.2.2.1⟩⟩ rfl hlen hl.1 rfl (lv_room hcat) (mt_dec hM hf) (by omega)) k1 k2
  show d1 + 8 + 1 ≤ R.frames ∧ 8 + (maxL + 11) + 60 * (d1 + 8) ≤ R.locals
  omega
/-- a static call of a method with a table -/
theorem ex_callSH {idx n d1 mc1 ms1 : Nat} {y : MethodName} {As : List Value} {Q1 : RT → GT → Prop} (hM : mt_ok M = true) (hf : mt_in M pc (.invokestatic idx) 3) (hp : (mt_m M).lookup idx = some (y, n, 1, d1, mc1, ms1)) (hh : mt_h M = []) (hd : d1 < d) (hlen : As.length = n)
    (hcat : (st.map fun v => v.category).sum ≤ 8) (hm : mc1 ≤ mc ∧ ms1 ≤ ms) (hcall : ex_MH G d1 mc1 ms1 y As g Q1)
    (k1 : ∀ v g', Q1 (.inl v) g' → ex_W G d (mc - mc1) (ms - ms1) M (pc + 3) ls (v.toList ++ st) g' Q) (k2 : ∀ E g', Q1 (.inr E) g' → Q (.inr E) g') : ex_W G d mc ms M pc ls (As.reverse ++ st) g Q := by
  intro p e R s m args9 below meth c H locs cells slots MC MS L hC hR hB hH hl hz
  obtain ⟨bytes, maxL, ret, hh9, hcode, h40, hmet⟩ := hcall
  have hts : ∀ w ∈ tb_G, w.before args9 s = true := fun w hw => hC.2.2.2.2.1 w (List.mem_filter.mp hw).1 (List.mem_filter.mp hw).2
  have hneed : ∀ w ∈ mt_mw (mt_y M).cls (idx, y, n, 1, d1, mc1, ms1), w ∈ tb_G := fun w hw => tb_in ((mt_ok_spec hM).2.1 w (mt_min hp hw)).1 ((mt_ok_spec hM).2.1 w (mt_min hp hw)).2
  have hgood : GoodIn tb_G (va_wsS (mt_y M).cls idx y (ex_ws (.codeWith y bytes maxL ret hh9))) := tb_good (fun w hw => by
    rcases List.mem_append.mp hw with h | h
    · exact hneed w h
    · rcases List.mem_cons.mp h with rfl | h
      · exact tb_in hcode rfl
      · exact h)
  refine ex_back (a := As.toArray) hC hR hB hl hz hm hh (vx_runSX (As := As) (rest := st) (nL := mt_l M) ⟨hC.1, hC.2.1, hC.2.2.1, hC.2.2.2.1, hts⟩ hmet (vx_cwSW n hts hgood rfl rfl rfl (mt_mok hM hp) ?_) ⟨ex_blind, fun U hU hW => ⟨rfl, by rw [hU]; exact hH.moved hW.alike, cx_K.warm hW hC.2.2.2.2.2.2.2.2.2.1⟩⟩ rfl hlen hl.1 rfl (lv_room hcat) (mt_dec hM hf) (by omega)) k1 k2
  show d1 + 8 + 1 ≤ R.frames ∧ 8 + (maxL + 11) + 60 * (d1 + 8) ≤ R.locals
  omega
end EH
