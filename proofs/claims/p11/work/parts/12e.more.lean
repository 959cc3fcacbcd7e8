/-! ===== rules whose values are told by an equation; calls whose contract is exact ===== -/
def hr0_b (w : Cond) : Bool := match w with
  | .code y _ _ ret => !(y.name == "<init>") || ret.isNone
  | _ => true
theorem hr0_all : lw_tbl.all hr0_b = true := by decide +kernel
theorem hr0_of {y : MethodName} (hi : y.name = "<init>") : ∀ bytes maxL ret, Cond.code y bytes maxL ret ∈ lw_tbl → ret = none := by
  intro bytes maxL ret h
  have := List.all_eq_true.mp hr0_all _ h
  simp only [hr0_b, hi, beq_self_eq_true, Bool.not_true, Bool.false_or, Option.isNone_iff_eq_none] at this
  exact this
section EX2
variable {G : GE} {d mc ms : Nat} {M : MT} {pc : Nat} {ls : List (Nat × Value)} {st stk : List Value} {g : GT} {Q : RT → GT → Prop}
/-- an address of ours isn't null -/
theorem ex_nz {x kx : Nat} (hkx : gx_K g x = kx) (hd : 0 < kx ∧ kx < 60) (k : x ≠ 0 → ex_W G d mc ms M pc ls stk g Q) : ex_W G d mc ms M pc ls stk g Q := by
  intro p e R s m args9 below meth c H locs cells slots MC MS L hC hR hB hH hl hz
  have h := hH.2.2.1 x (by omega)
  have := h.2.1 (by omega)
  have := hH.2.1.1
  exact k (by omega) p e R s m args9 below meth c H locs cells slots MC MS L hC hR hB hH hl hz
theorem ex_getIx {idx ci j a : Nat} {x : Int32} (hM : mt_ok M = true) (hf : mt_in M pc (.getfield idx) 3) (hp : (mt_f M).lookup idx = some (ci, j)) (hr : fx_R ci j = false) (hk : gx_K g a = ci + 1) (hx : gx_I g (100 * ci + j) a = x) (k : ex_W G d mc ms M (pc + 3) ls (.int x :: st) g Q) : ex_W G d mc ms M pc ls (.ref a :: st) g Q :=
  ex_getI hM hf hp hr hk (by rw [hx]; exact k)
theorem ex_getRx {idx ci j a x kx : Nat} (hM : mt_ok M = true) (hf : mt_in M pc (.getfield idx) 3) (hp : (mt_f M).lookup idx = some (ci, j)) (hr : fx_R ci j = true) (hk : gx_K g a = ci + 1) (hx : gx_R g (100 * ci + j) a = x) (hkx : gx_K g x = kx) (hd : 0 < kx ∧ kx < 60) (k : ex_W G d mc ms M (pc + 3) ls (.ref x :: st) g Q) : ex_W G d mc ms M pc ls (.ref a :: st) g Q :=
  ex_nz hkx hd fun h0 => ex_getR hM hf hp hr hk (by rw [hx]; exact h0) (by rw [hx]; exact k)
theorem ex_putRx {idx ci j a x kx : Nat} (hM : mt_ok M = true) (hf : mt_in M pc (.putfield idx) 3) (hp : (mt_f M).lookup idx = some (ci, j)) (hk : gx_K g a = ci + 1) (hr : fx_R ci j = true) (hkx : gx_K g x = kx) (hd : 0 < kx ∧ kx < 60) (k : ex_W G d mc ms M (pc + 3) ls st (px_R g (100 * ci + j) a x) Q) : ex_W G d mc ms M pc ls (.ref x :: .ref a :: st) g Q :=
  ex_nz hkx hd fun h0 => ex_putR hM hf hp hk hr h0 k
theorem ex_ialdx {a N : Nat} {i x : Int32} (hM : mt_ok M = true) (hf : mt_in M pc (.iaload) 1) (hk : gx_K g a = 50 ∨ gx_K g a = 60) (hN : gx_N g a = N) (hin : vp_in i N) (hx : gx_A g a i.toNatClampNeg = x) (k : ex_W G d mc ms M (pc + 1) ls (.int x :: st) g Q) : ex_W G d mc ms M pc ls (.int i :: .ref a :: st) g Q :=
  ex_iald hM hf hk (by rw [hN]; exact hin) (by rw [hx]; exact k)
theorem ex_baldx {a N : Nat} {i x : Int32} (hM : mt_ok M = true) (hf : mt_in M pc (.baload) 1) (hk : gx_K g a = 52) (hN : gx_N g a = N) (hin : vp_in i N) (hx : gx_A g a i.toNatClampNeg = x) (k : ex_W G d mc ms M (pc + 1) ls (.int x :: st) g Q) : ex_W G d mc ms M pc ls (.int i :: .ref a :: st) g Q :=
  ex_bald hM hf hk (by rw [hN]; exact hin) (by rw [hx]; exact k)
theorem ex_aaldx {a n x kx N : Nat} {i : Int32} (hM : mt_ok M = true) (hf : mt_in M pc (.aaload) 1) (hn : n < 4) (hk : gx_K g a = 53 + n) (hN : gx_N g a = N) (hin : vp_in i N) (hx : gx_O g a i.toNatClampNeg = x) (hkx : gx_K g x = kx) (hd : 0 < kx ∧ kx < 60) (k : ex_W G d mc ms M (pc + 1) ls (.ref x :: st) g Q) : ex_W G d mc ms M pc ls (.int i :: .ref a :: st) g Q :=
  ex_nz hkx hd fun h0 => ex_aald hM hf hn hk (by rw [hN]; exact hin) (by rw [hx]; exact h0) (by rw [hx]; exact k)
theorem ex_alenx {a N : Nat} (hM : mt_ok M = true) (hf : mt_in M pc (.arraylength) 1) (hk : gx_K g a = 50 ∨ gx_K g a = 51 ∨ gx_K g a = 60) (hN : gx_N g a = N) (k : ex_W G d mc ms M (pc + 1) ls (.int (nI N) :: st) g Q) : ex_W G d mc ms M pc ls (.ref a :: st) g Q :=
  ex_alen hM hf hk (by rw [hN]; exact k)
/-- an exact contract: one answer, one heap, no throw -/
theorem ex_callVr {idx n t d1 mc1 ms1 b : Nat} {y : MethodName} {As : List Value} {v : Option Value} {g1 : GT} (hM : mt_ok M = true) (hf : mt_in M pc (.invokevirtual idx) 3) (hp : (mt_m M).lookup idx = some (y, n, t, d1, mc1, ms1)) (hcall : ex_M G d1 mc1 ms1 y (.ref b :: As) g (rv v g1)) (hs : stk = As.reverse ++ .ref b :: st) (hk : gx_K g b = t - 10 + 1) (hh : mt_h M = []) (hlen : As.length = n) (ht : 10 ≤ t) (hd : d1 < d)
    (hcat : (st.map fun v => v.category).sum ≤ 8) (hm : mc1 ≤ mc ∧ ms1 ≤ ms) (k : ex_W G d (mc - mc1) (ms - ms1) M (pc + 3) ls (v.toList ++ st) g1 Q) : ex_W G d mc ms M pc ls stk g Q := by
  rw [hs]
  refine ex_callV hM hf hp ht hh hd hlen hk hcat hm hcall (fun v' g' h => ?_) (fun E g' h => ?_)
  · obtain ⟨h1, h2⟩ := h
    cases h1; subst h2; exact k
  · obtain ⟨h1, -⟩ := h
    cases h1
theorem ex_callSr {idx n d1 mc1 ms1 : Nat} {y : MethodName} {As : List Value} {v : Option Value} {g1 : GT} (hM : mt_ok M = true) (hf : mt_in M pc (.invokestatic idx) 3) (hp : (mt_m M).lookup idx = some (y, n, 1, d1, mc1, ms1)) (hcall : ex_M G d1 mc1 ms1 y As g (rv v g1)) (hs : stk = As.reverse ++ st) (hh : mt_h M = []) (hlen : As.length = n) (hd : d1 < d)
    (hcat : (st.map fun v => v.category).sum ≤ 8) (hm : mc1 ≤ mc ∧ ms1 ≤ ms) (k : ex_W G d (mc - mc1) (ms - ms1) M (pc + 3) ls (v.toList ++ st) g1 Q) : ex_W G d mc ms M pc ls stk g Q := by
  rw [hs]
  refine ex_callS hM hf hp hh hd hlen hcat hm hcall (fun v' g' h => ?_) (fun E g' h => ?_)
  · obtain ⟨h1, h2⟩ := h
    cases h1; subst h2; exact k
  · obtain ⟨h1, -⟩ := h
    cases h1
theorem ex_callSNr {idx n d1 mc1 ms1 : Nat} {y : MethodName} {As : List Value} {v : Option Value} {g1 : GT} (hM : mt_ok M = true) (hf : mt_in M pc (.invokestatic idx) 3) (hp : (mt_m M).lookup idx = some (y, n, 4, d1, mc1, ms1)) (hcall : ex_M G d1 mc1 ms1 y As g (rv v g1)) (hs : stk = As.reverse ++ st) (hnest : Cond.methodLinkNest (mt_y M).cls idx y "RoundKeepers" ∈ cx_nest) (hh : mt_h M = []) (hlen : As.length = n) (hd : d1 < d)
    (hcat : (st.map fun v => v.category).sum ≤ 8) (hm : mc1 ≤ mc ∧ ms1 ≤ ms) (k : ex_W G d (mc - mc1) (ms - ms1) M (pc + 3) ls (v.toList ++ st) g1 Q) : ex_W G d mc ms M pc ls stk g Q := by
  rw [hs]
  refine ex_callSN hM hf hp hh hd hlen hnest hcat hm hcall (fun E g' h => ?_) (fun v' g' h => ?_)
  · obtain ⟨h1, -⟩ := h
    cases h1
  · obtain ⟨h1, h2⟩ := h
    cases h1; subst h2; exact k
/-- a constructor: its contract says nothing of throws; what it leaves is told by a predicate -/
theorem ex_callIp {idx n d1 mc1 ms1 b : Nat} {y : MethodName} {As : List Value} {P : GT → Prop} (hM : mt_ok M = true) (hf : mt_in M pc (.invokespecial idx) 3) (hp : (mt_m M).lookup idx = some (y, n, 2, d1, mc1, ms1)) (hcall : ex_M G d1 mc1 ms1 y (.ref b :: As) g (fun r g' => r = .inl none ∧ P g')) (hs : stk = As.reverse ++ .ref b :: st) (hi : y.name = "<init>") (hh : mt_h M = []) (hlen : As.length = n) (hd : d1 < d)
    (hcat : (st.map fun v => v.category).sum ≤ 8) (hm : mc1 ≤ mc ∧ ms1 ≤ ms) (k : ∀ g1, P g1 → ex_W G d (mc - mc1) (ms - ms1) M (pc + 3) ls st g1 Q) : ex_W G d mc ms M pc ls stk g Q := by
  rw [hs]
  refine ex_callI hM hf hp hh hd hlen hi hcat hm hcall (hr0_of hi) (fun E g' h => ?_) (fun v' g' h => ?_)
  · obtain ⟨h1, -⟩ := h
    cases h1
  · obtain ⟨h1, h2⟩ := h
    cases h1; exact k _ h2
theorem ex_callINp {idx n d1 mc1 ms1 b : Nat} {y : MethodName} {As : List Value} {P : GT → Prop} (hM : mt_ok M = true) (hf : mt_in M pc (.invokespecial idx) 3) (hp : (mt_m M).lookup idx = some (y, n, 5, d1, mc1, ms1)) (hcall : ex_M G d1 mc1 ms1 y (.ref b :: As) g (fun r g' => r = .inl none ∧ P g')) (hs : stk = As.reverse ++ .ref b :: st) (hnest : Cond.methodLinkNest (mt_y M).cls idx y "RoundKeepers" ∈ cx_nest) (hi : y.name = "<init>") (hh : mt_h M = []) (hlen : As.length = n) (hd : d1 < d)
    (hcat : (st.map fun v => v.category).sum ≤ 8) (hm : mc1 ≤ mc ∧ ms1 ≤ ms) (k : ∀ g1, P g1 → ex_W G d (mc - mc1) (ms - ms1) M (pc + 3) ls st g1 Q) : ex_W G d mc ms M pc ls stk g Q := by
  rw [hs]
  refine ex_callIN hM hf hp hh hd hlen hi hnest hcat hm hcall (hr0_of hi) (fun E g' h => ?_) (fun v' g' h => ?_)
  · obtain ⟨h1, -⟩ := h
    cases h1
  · obtain ⟨h1, h2⟩ := h
    cases h1; exact k _ h2
end EX2
/-! shapes: rows (offset, kind, length), references (offset, field, where to) -/
def sh (T : List (Nat × Nat × Nat) × List (Nat × Nat × Nat)) (g : GT) (a : Nat) : Prop := (∀ q ∈ T.1, gx_K g (a + q.1) = q.2.1 ∧ gx_N g (a + q.1) = q.2.2) ∧ (∀ q ∈ T.2, gx_R g q.2.1 (a + q.1) = a + q.2.2)
theorem sh_k {T : List (Nat × Nat × Nat) × List (Nat × Nat × Nat)} {g : GT} {a : Nat} {q : Nat × Nat × Nat} (h : sh T g a) (i : Nat) (hi : T.1[i]? = some q) : gx_K g (a + q.1) = q.2.1 := (h.1 q (List.mem_of_getElem? hi)).1
theorem sh_n {T : List (Nat × Nat × Nat) × List (Nat × Nat × Nat)} {g : GT} {a : Nat} {q : Nat × Nat × Nat} (h : sh T g a) (i : Nat) (hi : T.1[i]? = some q) : gx_N g (a + q.1) = q.2.2 := (h.1 q (List.mem_of_getElem? hi)).2
theorem sh_r {T : List (Nat × Nat × Nat) × List (Nat × Nat × Nat)} {g : GT} {a : Nat} {q : Nat × Nat × Nat} (h : sh T g a) (i : Nat) (hi : T.2[i]? = some q) : gx_R g q.2.1 (a + q.1) = a + q.2.2 := h.2 q (List.mem_of_getElem? hi)
theorem sh_sub {T T' : List (Nat × Nat × Nat) × List (Nat × Nat × Nat)} {g : GT} {a : Nat} (o : Nat) (h : sh T g a) (h1 : ∀ q ∈ T'.1, (o + q.1, q.2) ∈ T.1) (h2 : ∀ q ∈ T'.2, (o + q.1, q.2.1, o + q.2.2) ∈ T.2) : sh T' g (a + o) := by
  refine ⟨fun q hq => ?_, fun q hq => ?_⟩
  · have := h.1 _ (h1 q hq)
    rw [Nat.add_assoc]
    exact this
  · have := h.2 _ (h2 q hq)
    rw [Nat.add_assoc, Nat.add_assoc]
    exact this
def T1 : List (Nat × Nat × Nat) × List (Nat × Nat × Nat) := ([(0, 2, 0)], [])
def T2 : List (Nat × Nat × Nat) × List (Nat × Nat × Nat) := ([(0, 3, 0), (1, 50, 48)], [(0, 201, 1)])
def T3 : List (Nat × Nat × Nat) × List (Nat × Nat × Nat) := ([(0, 4, 0), (1, 50, 10)], [(0, 307, 1)])
def T4 : List (Nat × Nat × Nat) × List (Nat × Nat × Nat) := ([(0, 5, 0), (1, 50, 10)], [(0, 409, 1)])
def T5 : List (Nat × Nat × Nat) × List (Nat × Nat × Nat) := ([(0, 6, 0), (1, 50, 10), (2, 50, 16), (3, 5, 0), (4, 50, 10), (5, 9, 0), (6, 50, 16), (7, 50, 16), (8, 50, 16), (9, 50, 16), (10, 2, 0)], [(0, 503, 3), (0, 504, 5), (0, 505, 10), (0, 511, 1), (0, 514, 2), (3, 409, 4), (5, 802, 6), (5, 803, 7), (5, 804, 8), (5, 805, 9)])
def T6 : List (Nat × Nat × Nat) × List (Nat × Nat × Nat) := ([(0, 7, 0), (1, 50, 16)], [(0, 608, 1)])
def T8 : List (Nat × Nat × Nat) × List (Nat × Nat × Nat) := ([(0, 9, 0), (1, 50, 16), (2, 50, 16), (3, 50, 16), (4, 50, 16)], [(0, 802, 1), (0, 803, 2), (0, 804, 3), (0, 805, 4)])
def T9 : List (Nat × Nat × Nat) × List (Nat × Nat × Nat) := ([(0, 10, 0), (1, 51, 1200), (2, 50, 16)], [(0, 901, 1), (0, 902, 2)])
def T10 : List (Nat × Nat × Nat) × List (Nat × Nat × Nat) := ([(0, 11, 0), (1, 50, 16)], [(0, 1005, 1)])
theorem sh_54 {g : GT} {a : Nat} (h : sh T5 g a) : sh T4 g (a + 3) := sh_sub 3 h (by decide) (by decide)
theorem sh_58 {g : GT} {a : Nat} (h : sh T5 g a) : sh T8 g (a + 5) := sh_sub 5 h (by decide) (by decide)
theorem sh_51 {g : GT} {a : Nat} (h : sh T5 g a) : sh T1 g (a + 10) := sh_sub 10 h (by decide) (by decide)
