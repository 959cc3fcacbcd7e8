/-! ===== new cells; answers ===== -/
section EN
variable {G : GE} {d mc ms : Nat} {M : MT} {pc : Nat} {ls : List (Nat × Value)} {st : List Value} {g : GT} {Q : RT → GT → Prop}
theorem gx_H.push {U : State} {H H1 : Heap} {k n : Nat} (h : gx_H G U g H) (hk : k ≠ 0 ∧ k < 60) (z : H1.size = H.size + 1) (oq : ∀ q : Nat, q < H.size → H1[q]? = H[q]?) (hc : gx_cell G U (px_N g k n) H1 (gx_Z g)) : gx_H G U (px_N g k n) H1 := by
  obtain ⟨h1, h2, h3, h4, h5, h6⟩ := h
  have hZ : gx_Z (px_N g k n) = gx_Z g + 1 := rfl
  have hne : ∀ q, q ≠ gx_Z g → gx_K (px_N g k n) q = gx_K g q := fun q hq => by
    show (if q = gx_Z g then k else gx_K g q) = _
    rw [if_neg hq]
  have hself : gx_K (px_N g k n) (gx_Z g) = k := by
    show (if gx_Z g = gx_Z g then k else _) = _
    rw [if_pos rfl]
  have hkp : ∀ q : Nat, q < H.size → ¬ ge_b G ≤ q → H1[q]? = H[q]? := fun q hq _ => oq q hq
  refine ⟨by rw [z, h1, hZ], by rw [hZ]; omega, fun q hq => ?_, fun q hq => ?_, h5.kept hkp, h6.kept hkp⟩
  · by_cases e : q = gx_Z g
    · subst e
      rw [hself]
      omega
    · rw [hne q e] at hq ⊢
      have := h3 q hq
      omega
  · by_cases e : q = gx_Z g
    · subst e; exact hc
    · rw [hne q e] at hq
      have hlt : q < H.size := by rw [h1]; exact (h3 q hq).1
      refine ((h4 q hq).kept (oq q hlt)).same (hne q e) ?_ (fun f => ?_) (fun f => ?_) (fun j => ?_) (fun j => ?_) (fun j => ?_)
      · show (if q = gx_Z g then n else gx_N g q) = _
        rw [if_neg e]
      · show (if q = gx_Z g then 0 else gx_I g f q) = _
        rw [if_neg e]
      · show (if q = gx_Z g then 0 else gx_R g f q) = _
        rw [if_neg e]
      · show (if q = gx_Z g then 0 else gx_A g q j) = _
        rw [if_neg e]
      · show (if q = gx_Z g then 0 else gx_L g q j) = _
        rw [if_neg e]
      · show (if q = gx_Z g then 0 else gx_O g q j) = _
        rw [if_neg e]
theorem nx_K (g : GT) (k n : Nat) : gx_K (px_N g k n) (gx_Z g) = k := if_pos rfl
theorem nx_N (g : GT) (k n : Nat) : gx_N (px_N g k n) (gx_Z g) = n := if_pos rfl
theorem nx_A (g : GT) (k n j : Nat) : gx_A (px_N g k n) (gx_Z g) j = 0 := if_pos rfl
theorem nx_L (g : GT) (k n j : Nat) : gx_L (px_N g k n) (gx_Z g) j = 0 := if_pos rfl
theorem nx_O (g : GT) (k n j : Nat) : gx_O (px_N g k n) (gx_Z g) j = 0 := if_pos rfl
theorem nx_I (g : GT) (k n f : Nat) : gx_I (px_N g k n) f (gx_Z g) = 0 := if_pos rfl
theorem nx_R (g : GT) (k n f : Nat) : gx_R (px_N g k n) f (gx_Z g) = 0 := if_pos rfl
/-- newarray: int, long, boolean -/
theorem ex_newa {at0 : ArrayType} {i : Int32} {N kd : Nat} (hM : mt_ok M = true) (hf : mt_in M pc (.newarray at0) 2) (hk : (at0 = .int ∧ kd = 50) ∨ (at0 = .long ∧ kd = 51) ∨ (at0 = .boolean ∧ kd = 52)) (hi : ¬ i < 0) (hN : i.toNatClampNeg = N) (hb9 : N ≤ 1000000)
    (hw : Cond.arrayClass (newarray.typeOf at0) ∈ lw_tbl) (h1 : 1 ≤ mc) (h2 : N ≤ ms) (k : ex_W G d (mc - 1) (ms - N) M (pc + 2) ls (.ref (gx_Z g) :: st) (px_N g kd N) Q) : ex_W G d mc ms M pc ls (.int i :: st) g Q := by
  intro p e R s m args9 below meth c H locs cells slots MC MS L hC hR hB hH hl hz
  have hwd : (Cond.arrayClass (newarray.typeOf at0)).before args9 s = true := hC.2.2.2.2.1 _ hw rfl
  refine va_newaK (N := N) (h := gx_Z g) hC.1 hC.2.1 hwd rfl (mt_dec hM hf) rfl hi hN ?_ (by omega) (by omega) hH.1 fun H1 cA e1 z1 o1 hAr hNm => ?_
  · rcases hk with ⟨rfl, -⟩ | ⟨rfl, -⟩ | ⟨rfl, -⟩ <;> simp [newarray.typeOf, componentBytes] <;> omega
  · refine k p e R s m args9 below meth c H1 locs (cells + 1) (slots + N) MC MS L hC hR (by omega) (hH.push (by omega) (by rw [z1, hH.1]) (fun q hq => o1 q (by rw [hH.1] at hq; exact hq)) ?_) hl hz
    rcases hk with ⟨rfl, rfl⟩ | ⟨rfl, rfl⟩ | ⟨rfl, rfl⟩
    · obtain rfl : cA = ge_A G 0 := Option.some.inj (hNm.symm.trans (ex_ty hC 0 rfl).2)
      refine ax_cell (g := px_N g 50 N) (nx_K g 50 N) rfl (by omega) (fun v hv => ?_) (by omega) e1
      refine ⟨fun _ => ?_, fun h => by omega, fun h => by omega, fun i _ h => by omega⟩
      rw [← Option.some.inj (e1.symm.trans hv)]
      simp only [nx_N, nx_A]
      rfl
    · obtain rfl : cA = ge_A G 1 := Option.some.inj (hNm.symm.trans (ex_ty hC 1 rfl).2)
      refine ax_cell (g := px_N g 51 N) (nx_K g 51 N) rfl (by omega) (fun v hv => ?_) (by omega) e1
      refine ⟨fun h => by omega, fun _ => ?_, fun h => by omega, fun i _ h => by omega⟩
      rw [← Option.some.inj (e1.symm.trans hv)]
      simp only [nx_N, nx_L]
      rfl
    · obtain rfl : cA = ge_A G 2 := Option.some.inj (hNm.symm.trans (ex_ty hC 2 rfl).2)
      refine ax_cell (g := px_N g 52 N) (nx_K g 52 N) rfl (by omega) (fun v hv => ?_) (by omega) e1
      refine ⟨fun h => by omega, fun h => by omega, fun _ => ?_, fun i _ h => by omega⟩
      rw [← Option.some.inj (e1.symm.trans hv)]
      simp only [nx_N, nx_A]
      rfl
theorem mt_kin2 {idx q : Nat} (hp : (mt_k M).lookup idx = some q) {w : Cond} (hw : w ∈ mt_kw (mt_y M).cls (idx, q)) : w ∈ mt_need M :=
  List.mem_append_left _ (List.mem_append_right _ (List.mem_flatMap.mpr ⟨(idx, q), mt_mem hp, hw⟩))
/-- new of a class of ours -/
theorem ex_new {idx ci : Nat} (hM : mt_ok M = true) (hf : mt_in M pc (.new idx) 3) (hp : (mt_k M).lookup idx = some ci) (hci : ci < 13) (h1 : 1 ≤ mc) (h2 : cx_N ci ≤ ms) (k : ex_W G d (mc - 1) (ms - cx_N ci) M (pc + 3) ls (.ref (gx_Z g) :: st) (px_N g (ci + 1) 0) Q) : ex_W G d mc ms M pc ls st g Q := by
  intro p e R s m args9 below meth c H locs cells slots MC MS L hC hR hB hH hl hz
  obtain ⟨hc, hty, hnm⟩ := cx_facts ci hci
  have hkw : mt_kw (mt_y M).cls (idx, ci) = [.classLink (mt_y M).cls idx (cx_R ci), .instantiable (cx_R ci) (cx_N ci), .initialized (cx_R ci)] := if_pos hci
  have w1 := mt_wd hM hC (mt_kin2 hp (w := .classLink (mt_y M).cls idx (cx_R ci)) (by rw [hkw]; simp))
  have w2 := mt_wd hM hC (mt_kin2 hp (w := .instantiable (cx_R ci) (cx_N ci)) (by rw [hkw]; simp))
  have w3 := mt_wd hM hC (mt_kin2 hp (w := .initialized (cx_R ci)) (by rw [hkw]; simp))
  have hKn := hC.2.2.2.2.2.2.2.2.2.1.1.1 ci _ hc
  refine W.newcK hC.1 hC.2.1 hC.2.2.2.1 w1 w2 w3 rfl (mt_dec hM hf) (by omega) (by omega) hKn.2.1 rfl fun H1 kC hkC e1 z1 o1 => ?_
  rw [show (.ref H.size : Value) = .ref (gx_Z g) by rw [hH.1]]
  refine k p e R s m args9 below meth c H1 locs (cells + 1) (slots + cx_N ci) MC MS L hC hR (by omega) (hH.push (by omega) z1 o1 ?_) hl hz
  rw [hH.1] at e1
  refine ⟨fun ci' h1 h2 => ?_, fun h => ?_, fun h => ?_, fun h => ?_, fun i h0 h => ?_, fun h => ?_⟩
  · rw [nx_K] at h1
    obtain rfl : ci = ci' := by omega
    refine ⟨_, hc, (u_born (cx_ty ci) (fw_w hC hci) (fun w h => h) hKn hkC e1 hty).to fun j hj => ?_⟩
    unfold fx_V
    by_cases hr : fx_R ci j = true
    · rw [if_pos hr, nx_R]
      rcases fx_ref hci hj hr with ⟨n, e⟩ | ⟨t, e⟩ <;> rw [e] <;> rfl
    · rw [if_neg hr, nx_I, fx_int hci hj (by simpa using hr)]
      rfl
  all_goals (rw [nx_K] at h; omega)
/-- anewarray -/
theorem ex_anew {idx n N : Nat} {i : Int32} (hM : mt_ok M = true) (hf : mt_in M pc (.anewarray idx) 3) (hp : (mt_k M).lookup idx = some (20 + ax_ci n)) (hn : n < 4) (hi : ¬ i < 0) (hN : i.toNatClampNeg = N) (hb9 : N ≤ 1000000) (h1 : 1 ≤ mc) (h2 : N ≤ ms) (k : ex_W G d (mc - 1) (ms - N) M (pc + 3) ls (.ref (gx_Z g) :: st) (px_N g (53 + n) N) Q) : ex_W G d mc ms M pc ls (.int i :: st) g Q := by
  intro p e R s m args9 below meth c H locs cells slots MC MS L hC hR hB hH hl hz
  have hci : ax_ci n < 13 := by
    match n, hn with
    | 0, _ => decide
    | 1, _ => decide
    | 2, _ => decide
    | 3, _ => decide
    | n + 4, h => omega
  have hkw : mt_kw (mt_y M).cls (idx, 20 + ax_ci n) = [.classLink (mt_y M).cls idx (cx_R (ax_ci n))] := by
    unfold mt_kw
    dsimp only
    rw [if_neg (by omega), if_pos (by omega), Nat.add_sub_cancel_left]
  have w1 := mt_wd hM hC (mt_kin2 hp (w := .classLink (mt_y M).cls idx (cx_R (ax_ci n))) (by rw [hkw]; simp))
  have hover : va_AO (cx_R (ax_ci n)) s := by
    obtain ⟨-, -, -, a1, a2, a3, a4, -⟩ := hC.2.2.2.2.2.2.2.2.2.1
    match n, hn with
    | 0, _ => exact a1
    | 1, _ => exact a2
    | 2, _ => exact a3
    | 3, _ => exact a4
    | n + 4, h => omega
  have hRA : s.vm.findClass ("[" ++ (FieldType.object (cx_R (ax_ci n))).toString) = some (ge_A G (3 + n)) := by
    match n, hn with
    | 0, _ => obtain ⟨_, _, _, _, _, h⟩ := (ex_ty hC 3 rfl).2; exact h
    | 1, _ => obtain ⟨_, _, _, _, _, h⟩ := (ex_ty hC 4 rfl).2; exact h
    | 2, _ => obtain ⟨_, _, _, _, _, h⟩ := (ex_ty hC 5 rfl).2; exact h
    | 3, _ => obtain ⟨_, _, _, _, _, h⟩ := (ex_ty hC 6 rfl).2; exact h
    | n + 4, h => omega
  subst hN
  refine W.anew hC.1 hC.2.1 hC.2.2.2.1 w1 (va_AO.use hover) rfl (mt_dec hM hf) rfl hi (by omega) (by omega) (by omega) fun cA kA comp f1 f2 f3 f4 => ?_
  obtain rfl : cA = ge_A G (3 + n) := Option.some.inj (f1.symm.trans hRA)
  rw [show (.ref H.size : Value) = .ref (gx_Z g) by rw [hH.1]]
  have e1 : (H.push ({ cls := ge_A G (3 + n), slots := Array.replicate i.toNatClampNeg .null, vm := .none } : Cell))[gx_Z g]? = some (arrV (ge_A G (3 + n)) i.toNatClampNeg (fun _ => .null)) := by rw [← hH.1, Array.getElem?_push_size, ← arrV_new]
  refine k p e R s m args9 below meth c _ locs (cells + 1) (slots + i.toNatClampNeg) MC MS L hC hR (by omega) (hH.push (by omega) (by rw [Array.size_push]) (fun q hq => by rw [Array.getElem?_push, if_neg (Nat.ne_of_lt hq)]) ?_) hl hz
  refine ax_cell (g := px_N g (53 + n) i.toNatClampNeg) (nx_K g (53 + n) _) rfl (by omega) (fun v hv => ?_) (by omega) e1
  refine ⟨fun h => by omega, fun h => by omega, fun h => by omega, fun i' _ h => ?_⟩
  obtain rfl : n = i' := by omega
  rw [← Option.some.inj (e1.symm.trans hv)]
  simp only [nx_N, nx_O]
  rfl
/-! answers -/
theorem ex_iret {x : Int32} (hM : mt_ok M = true) (hf : mt_in M pc (.ireturn) 1) (hr : mt_r M = some .int) (hq : Q (.inl (some (.int x))) g) : ex_W G d mc ms M pc ls [.int x] g Q := by
  intro p e R s m args9 below meth c H locs cells slots MC MS L hC hR hB hH hl hz
  refine W.widen (k := MC) (n := MS) (by omega) (by omega) (vx_ret ?_)
  exact W.iret hC.1 hC.2.1 (hC.2.2.2.2.2.1.trans hr) (fun t ht hW => ⟨_, g, rfl, hq, by rw [ht]; exact hH.moved hW.alike⟩) hz (mt_dec hM hf) hC.2.2.2.2.2.2.1
theorem ex_zret {x : Int32} (hM : mt_ok M = true) (hf : mt_in M pc (.ireturn) 1) (hr : mt_r M = some .boolean) (hx : x = 0 ∨ x = 1) (hq : Q (.inl (some (.int x))) g) : ex_W G d mc ms M pc ls [.int x] g Q := by
  intro p e R s m args9 below meth c H locs cells slots MC MS L hC hR hB hH hl hz
  refine W.widen (k := MC) (n := MS) (by omega) (by omega) (vx_ret ?_)
  exact W.zret hC.1 hC.2.1 (hC.2.2.2.2.2.1.trans hr) (by rcases hx with rfl | rfl <;> decide) (fun t ht hW => ⟨_, g, rfl, hq, by rw [ht]; exact hH.moved hW.alike⟩) hz (mt_dec hM hf) hC.2.2.2.2.2.2.1
theorem ex_vret (hM : mt_ok M = true) (hf : mt_in M pc (.return_) 1) (hr : mt_r M = none) (hq : Q (.inl none) g) : ex_W G d mc ms M pc ls [] g Q := by
  intro p e R s m args9 below meth c H locs cells slots MC MS L hC hR hB hH hl hz
  refine W.widen (k := MC) (n := MS) (by omega) (by omega) (vx_ret ?_)
  exact W.vret hC.1 hC.2.1 (hC.2.2.2.2.2.1.trans hr) (fun t ht hW => ⟨_, g, rfl, hq, by rw [ht]; exact hH.moved hW.alike⟩) hz (mt_dec hM hf) hC.2.2.2.2.2.2.1
theorem ex_aret {x : Nat} {C : String} (hM : mt_ok M = true) (hf : mt_in M pc (.areturn) 1) (hr : mt_r M = some (.object C)) (hq : Q (.inl (some (.ref x))) g) : ex_W G d mc ms M pc ls [.ref x] g Q := by
  intro p e R s m args9 below meth c H locs cells slots MC MS L hC hR hB hH hl hz
  refine W.widen (k := MC) (n := MS) (by omega) (by omega) (vx_ret ?_)
  exact W.aret hC.1 hC.2.1 (hC.2.2.2.2.2.1.trans hr) (Or.inl ⟨_, rfl⟩) (Or.inr ⟨_, rfl⟩) (fun t ht hW => ⟨_, g, rfl, hq, by rw [ht]; exact hH.moved hW.alike⟩) hz (mt_dec hM hf) hC.2.2.2.2.2.2.1
end EN
