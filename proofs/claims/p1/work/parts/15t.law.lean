/-! ===== the two objects made and cleared; what moves with the heap ===== -/
theorem sh_sm {T : List (Nat × Nat × Nat) × List (Nat × Nat × Nat)} {h h' : GT} {x n : Nat} (hs : ∀ q, x ≤ q → q < x + n → sm h h' q) (b1 : T.1.all (fun q => decide (q.1 < n)) = true) (b2 : T.2.all (fun q => decide (q.1 < n)) = true) (f : sh T h x) : sh T h' x := by
  refine ⟨fun q hq => ?_, fun q hq => ?_⟩
  · have b := of_decide_eq_true (List.all_eq_true.mp b1 q hq)
    have k := hs (x + q.1) (by omega) (by omega)
    exact ⟨k.1.trans (f.1 q hq).1, k.2.1.trans (f.1 q hq).2⟩
  · have b := of_decide_eq_true (List.all_eq_true.mp b2 q hq)
    have k := hs (x + q.1) (by omega) (by omega)
    exact (k.2.2.2.1 _).trans (f.2 q hq)
theorem FR_sm {h h' : GT} {x : Nat} (hs : ∀ q, x ≤ q → q < x + 892 → sm h h' q) (f : FR h x) : FR h' x := by
  refine ⟨sh_sm hs (by decide +kernel) (by decide +kernel) f.1, fun q hq => ?_, fun q hq => ?_, fun q hq j hj => ?_, fun q hq => ?_⟩
  · have b := of_decide_eq_true (List.all_eq_true.mp (show (O11 ++ OM).all (fun q => decide (q.1 < 892)) = true by decide +kernel) q hq)
    exact ((hs (x + q.1) (by omega) (by omega)).2.2.2.2.2.2 _).trans (f.2.1 q hq)
  · have b := of_decide_eq_true (List.all_eq_true.mp (show IF.all (fun q => decide (q.1 < 892)) = true by decide +kernel) q hq)
    exact ((hs (x + q.1) (by omega) (by omega)).2.2.1 _).trans (f.2.2.1 q hq)
  · have b := of_decide_eq_true (List.all_eq_true.mp (show AF.all (fun q => decide (q.1 < 892)) = true by decide +kernel) q hq)
    exact ((hs (x + q.1) (by omega) (by omega)).2.2.2.2.1 _).trans (f.2.2.2.1 q hq j hj)
  · have b := of_decide_eq_true (List.all_eq_true.mp (show EF.all (fun q => decide (q.1 < 892)) = true by decide +kernel) q hq)
    exact ((hs (x + q.1) (by omega) (by omega)).2.2.2.2.1 _).trans (f.2.2.2.2 q hq)
theorem FM_sm {h h' : GT} {x : Nat} (hs : ∀ q, x ≤ q → q < x + 60 → sm h h' q) (f : FM h x) : FM h' x := by
  refine ⟨sh_sm hs (by decide +kernel) (by decide +kernel) f.1, fun q hq => ?_, fun q hq => ?_, fun q hq j h1 h2 => ?_⟩
  · have b := of_decide_eq_true (List.all_eq_true.mp (show IM.all (fun q => decide (q.1 < 60)) = true by decide +kernel) q hq)
    exact ((hs (x + q.1) (by omega) (by omega)).2.2.1 _).trans (f.2.1 q hq)
  · have b := of_decide_eq_true (List.all_eq_true.mp (show EM.all (fun q => decide (q.1 < 60)) = true by decide +kernel) q hq)
    exact ((hs (x + q.1) (by omega) (by omega)).2.2.2.2.1 _).trans (f.2.2.1 q hq)
  · have b := of_decide_eq_true (List.all_eq_true.mp (show RM.all (fun q => decide (q.1 < 60)) = true by decide +kernel) q hq)
    exact ((hs (x + q.1) (by omega) (by omega)).2.2.2.2.1 _).trans (f.2.2.2 q hq j h1 h2)
theorem FR_r {h : GT} {x : Nat} (f : FR h x) : sh T11 h x ∧ tO O11 h x ∧ tI I11 h x := by
  refine ⟨⟨fun q hq => f.1.1 q (List.mem_append_left _ hq), fun q hq => f.1.2 q (List.mem_append_left _ hq)⟩, fun q hq => f.2.1 q (List.mem_append_left _ hq), fun q hq => ?_⟩
  have b := of_decide_eq_true (List.all_eq_true.mp (show I11.all (fun q => decide (q ∈ IF)) = true by decide +kernel) q hq)
  exact f.2.2.1 q b
/-- what a constructor leaves: its cells fresh, the older ones as they were -/
def NR (g : GT) (x n : Nat) (F : GT → Nat → Prop) : GT → Prop := fun h => F h x ∧ gx_Z h = x + n ∧ ∀ q, q < x → sm g h q
theorem m_X11_init {G : GE} (hst : (ge_l G).stackTraces = false) {x : Nat} {g : GT} (hk : gx_K g x = 12) (hn : gx_N g x = 0) (hz : gx_Z g = x + 1) : ex_M G 8 891 12942 my_X11_init [.ref x] g (fun r h => r = .inl none ∧ NR g x 892 FR h) := by
  refine ex_M_of ok2_X11_init cw2_X11_init rfl hst (Nat.le_of_ble_eq_true rfl) ?_
  refine in_X11 hst hk hn hz (fun h s => ?_)
  obtain ⟨t1, t2⟩ := ST_TM s
  refine ex_aload_n ok2_X11_init (mi 98 rfl) rfl ?_
  refine ex_callVr (As := []) ok2_X11_init (mi 99 rfl) rfl (m_X11_resetAll hst s.2.1 s.2.2.1 s.2.2.2.1) rfl (fk s.2.1 0 rfl) rfl rfl (by decide) (by decide) (Nat.le_of_ble_eq_true rfl) (by decide) ?_
  refine ex_vret ok2_X11_init (mi 100 rfl) rfl ?_
  exact ⟨rfl, FR_WR t1 t2 s.2.2.2.1, zq apq s.1, fun q hq => (s.2.2.2.2.2.2.2.2 q hq).trans (ap_sm (fun w _ => by omega))⟩
theorem m_X12_init {G : GE} (hst : (ge_l G).stackTraces = false) {x : Nat} {g : GT} (hk : gx_K g x = 13) (hn : gx_N g x = 0) (hz : gx_Z g = x + 1) : ex_M G 4 59 256151 my_X12_init [.ref x] g (fun r h => r = .inl none ∧ NR g x 60 FM h) := by
  refine ex_M_of ok_X12_init cw_X12_init rfl hst (Nat.le_of_ble_eq_true rfl) ?_
  refine in_X12 hst hk hn hz (fun h s => ?_)
  refine ex_aload_n ok_X12_init (mi 238 rfl) rfl ?_
  refine ex_callVr (As := []) ok_X12_init (mi 239 rfl) rfl (m_X12_clear hst s.2.1) rfl (fk s.2.1 0 rfl) rfl rfl (by decide) (by decide) (Nat.le_of_ble_eq_true rfl) (by decide) ?_
  refine ex_vret ok_X12_init (mi 240 rfl) rfl ?_
  exact ⟨rfl, FM_WC s.2.1, zq apq s.1, fun q hq => (s.2.2.2.2.2.2.2.2 q hq).trans (ap_sm (fun w _ => by omega))⟩
theorem m_X11_clear {G : GE} (hst : (ge_l G).stackTraces = false) {x : Nat} {h : GT} (f : FR h x) : ex_M G 8 0 0 my_X11_clear [.ref x] h (rv none (ap x WR h)) := by
  refine ex_M_of ok_X11_clear cw_X11_clear rfl hst (Nat.le_of_ble_eq_true rfl) ?_
  refine ex_aload_n ok_X11_clear (mi 0 rfl) rfl ?_
  refine ex_callVr (As := []) ok_X11_clear (mi 1 rfl) rfl (m_X11_resetAll hst (FR_r f).1 (FR_r f).2.1 (FR_r f).2.2) rfl (fk f.1 0 rfl) rfl rfl (by decide) (by decide) (Nat.le_of_ble_eq_true rfl) (by decide) ?_
  refine ex_vret ok_X11_clear (mi 2 rfl) rfl ?_
  exact ⟨rfl, rfl⟩
theorem m_X12_thrown {G : GE} (hst : (ge_l G).stackTraces = false) {x : Nat} {h : GT} {v : Int32} (hk : gx_K h x = 13) (hv : gx_I h 1200 x = v) : ex_M G 1 0 0 my_X12_thrown [.ref x] h (rv (some (.int v)) h) := by
  refine ex_M_of ok_X12_thrown cw_X12_thrown rfl hst (Nat.le_of_ble_eq_true rfl) ?_
  refine ex_aload_n ok_X12_thrown (mi 0 rfl) rfl ?_
  refine ex_getIx ok_X12_thrown (mi 1 rfl) rfl rfl hk hv ?_
  refine ex_iret ok_X12_thrown (mi 2 rfl) rfl ?_
  exact ⟨rfl, rfl⟩
section EL
variable {G : GE} {d mc ms : Nat} {M : MT} {pc : Nat} {ls : List (Nat × Value)} {st stk : List Value} {g : GT} {Q : RT → GT → Prop}
theorem ex_callVHs {idx n t d1 mc1 ms1 b : Nat} {y : MethodName} {As : List Value} {Q1 : RT → GT → Prop} (hM : mt_ok M = true) (hf : mt_in M pc (.invokevirtual idx) 3) (hp : (mt_m M).lookup idx = some (y, n, t, d1, mc1, ms1)) (hcall : ex_M G d1 mc1 ms1 y (.ref b :: As) g Q1) (hs : stk = As.reverse ++ .ref b :: st) (ht : 10 ≤ t) (hd : d1 < d) (hlen : As.length = n)
    (hk : gx_K g b = t - 10 + 1) (hcat : (st.map fun v => v.category).sum ≤ 8) (hm : mc1 ≤ mc ∧ ms1 ≤ ms)
    (k1 : ∀ v g', Q1 (.inl v) g' → ex_W G d (mc - mc1) (ms - ms1) M (pc + 3) ls (v.toList ++ st) g' Q)
    (k2 : ∀ E g', Q1 (.inr E) g' → ∃ e1 pre x suf, E = cx_E e1 ∧ hx_ok M pc e1 pre x suf = true ∧ ∀ q : Nat, ex_W G d (mc - mc1) (ms - ms1) M x.2.2.1 ls [.ref q] g' Q) : ex_W G d mc ms M pc ls stk g Q := by
  rw [hs]
  exact ex_callVH hM hf hp ht hd hlen hk hcat hm hcall k1 k2
theorem ex_callSHs {idx n d1 mc1 ms1 : Nat} {y : MethodName} {As : List Value} {P1 : Option Value → GT → Prop} (hM : mt_ok M = true) (hf : mt_in M pc (.invokestatic idx) 3) (hp : (mt_m M).lookup idx = some (y, n, 1, d1, mc1, ms1)) (hcall : ex_MH G d1 mc1 ms1 y As g (fun r h' => ∃ v, r = .inl v ∧ P1 v h')) (hs : stk = As.reverse ++ st) (hh : mt_h M = []) (hlen : As.length = n) (hd : d1 < d)
    (hcat : (st.map fun v => v.category).sum ≤ 8) (hm : mc1 ≤ mc ∧ ms1 ≤ ms) (k : ∀ v g', P1 v g' → ex_W G d (mc - mc1) (ms - ms1) M (pc + 3) ls (v.toList ++ st) g' Q) : ex_W G d mc ms M pc ls stk g Q := by
  rw [hs]
  refine ex_callSH hM hf hp hh hd hlen hcat hm hcall (fun v g' h => ?_) (fun E g' h => ?_)
  · obtain ⟨v', h1, h2⟩ := h
    cases h1
    exact k _ _ h2
  · obtain ⟨v', h1, h2⟩ := h
    cases h1
theorem ex_callVs {idx n t d1 mc1 ms1 b : Nat} {y : MethodName} {As : List Value} {P1 : Option Value → GT → Prop} (hM : mt_ok M = true) (hf : mt_in M pc (.invokevirtual idx) 3) (hp : (mt_m M).lookup idx = some (y, n, t, d1, mc1, ms1)) (hcall : ex_M G d1 mc1 ms1 y (.ref b :: As) g (fun r h' => ∃ v, r = .inl v ∧ P1 v h')) (hs : stk = As.reverse ++ .ref b :: st) (hk : gx_K g b = t - 10 + 1) (hh : mt_h M = []) (hlen : As.length = n) (ht : 10 ≤ t) (hd : d1 < d)
    (hcat : (st.map fun v => v.category).sum ≤ 8) (hm : mc1 ≤ mc ∧ ms1 ≤ ms) (k : ∀ v g', P1 v g' → ex_W G d (mc - mc1) (ms - ms1) M (pc + 3) ls (v.toList ++ st) g' Q) : ex_W G d mc ms M pc ls stk g Q := by
  rw [hs]
  refine ex_callV hM hf hp ht hh hd hlen hk hcat hm hcall (fun v' g' h => ?_) (fun E g' h => ?_)
  · obtain ⟨v, h1, h2⟩ := h
    cases h1
    exact k _ _ h2
  · obtain ⟨v, h1, h2⟩ := h
    cases h1
end EL
/-- what a helper of the law leaves: its answer, the long that it noted, all cells but the object's and that one -/
def LPh (x o k : Nat) (v : Int32) (h : GT) : Option Value → GT → Prop := fun r h' => r = some (.int (nI k)) ∧ (k = 0 → gx_L h' o 0 = v.toInt64) ∧ gx_K h' o = 51 ∧ gx_N h' o = 1 ∧ ∀ q, q < x ∨ x + 892 ≤ q → q ≠ o → sm h h' q
theorem smL {g : GT} {o j q : Nat} {v : Int64} (h : q ≠ o) : sm g (px_L g o j v) q := ⟨rfl, rfl, fun _ => rfl, fun _ => rfl, fun _ => rfl, fun i => if_neg (fun k => h k.1), fun _ => rfl⟩
theorem gxL {g : GT} {o : Nat} {v : Int64} : gx_L (px_L g o 0 v) o 0 = v := if_pos ⟨rfl, rfl⟩
theorem LPh0 {x o : Nat} {v : Int32} {h g : GT} (q2 : kp x 892 h g) (ho : x + 892 ≤ o) (hk : gx_K h o = 51) (hn : gx_N h o = 1) : LPh x o 0 v h (some (.int (nI 0))) (px_L g o 0 v.toInt64) :=
  ⟨rfl, fun _ => gxL, (q2.2 o (Or.inr ho)).1.trans hk, (q2.2 o (Or.inr ho)).2.1.trans hn, fun q hq hne => (q2.2 q hq).trans (smL hne)⟩
theorem LPhk {x o k : Nat} {v : Int32} {h g : GT} (k0 : k ≠ 0) (q2 : kp x 892 h g) (ho : x + 892 ≤ o) (hk : gx_K h o = 51) (hn : gx_N h o = 1) : LPh x o k v h (some (.int (nI k))) g :=
  ⟨rfl, fun e => absurd e k0, (q2.2 o (Or.inr ho)).1.trans hk, (q2.2 o (Or.inr ho)).2.1.trans hn, fun q hq _ => q2.2 q hq⟩
