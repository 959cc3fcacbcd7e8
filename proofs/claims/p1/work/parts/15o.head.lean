/-! ===== the calls on a fresh object ===== -/
def E3 (k : Nat) : Nat := 99 + k
def E2 (k : Nat) : Nat := if k = 1 then 100 else 102
def E1 (_ : Nat) : Nat := 101
def CC (G : GE) (d mc ms : Nat) (y : MethodName) (x : Nat) (As : List Value) (E : Nat → Nat) (k : Nat) (v : Int32) : Prop :=
  ∀ h, FR h x → ex_M G d mc ms y (.ref x :: As) h (fun r h' => ((k = 0 ∧ r = .inl (some (.int v))) ∨ (k ≠ 0 ∧ r = .inr (cx_E (E k)))) ∧ kp x 892 h h')
theorem tA_sub {A : List (Nat × Nat × Int32)} {g : GT} {x : Nat} (o n : Nat) (v : Int32) (h : tA A g x) (hm : (o, n, v) ∈ A) : tA [(0, n, v)] g (x + o) := by
  intro q hq j hj
  obtain rfl := List.mem_singleton.mp hq
  exact h _ hm j hj
theorem vin0 (i : Int32) : ¬ vp_in i 0 := fun h => h (Or.inr (Nat.zero_le _))
theorem upb3 : ∀ j, j < 3 → nI 7 >>> (nI j &&& 31) &&& nI 1 = nI 1 := by decide +kernel
theorem upb9 : ∀ j, j < 9 → nI 511 >>> (nI j &&& 31) &&& nI 1 = nI 1 := by decide +kernel
theorem upb12 : ∀ j, j < 12 → nI 4095 >>> (nI j &&& 31) &&& nI 1 = nI 1 := by decide +kernel
theorem m_isSlot1 {G : GE} (hst : (ge_l G).stackTraces = false) {h : GT} {j : Nat} (hj : j < 16) : ex_M G 1 0 0 my_X11_isSlot [.int (nI j)] h (rv (some (.int (nI 1))) h) := by
  refine ex_M_of ok_X11_isSlot cw_X11_isSlot rfl hst (Nat.le_of_ble_eq_true rfl) ?_
  refine ex_iload_n ok_X11_isSlot (mi 0 rfl) rfl ?_
  refine ex_if_lt (tgt := 14) ok_X11_isSlot (mi 1 rfl) rfl (fun h1 => False.elim (nI_pos (by omega) h1)) (fun h1 => ?_)
  refine ex_iload_n ok_X11_isSlot (mi 2 rfl) rfl ?_
  refine ex_bipush ok_X11_isSlot (mi 3 rfl) ?_
  refine ex_icmp_ge (tgt := 14) ok_X11_isSlot (mi 4 rfl) rfl (fun h7 => False.elim (absurd h7 (nI_ge hj (by decide)))) (fun h7 => ?_)
  refine ex_iconst ok_X11_isSlot (mi 5 rfl) ?_
  refine ex_goto (tgt := 15) ok_X11_isSlot (mi 6 rfl) rfl ?_
  refine ex_zret ok_X11_isSlot (mi 8 rfl) rfl (by decide) ?_
  exact ⟨inlI (by decide), rfl⟩
