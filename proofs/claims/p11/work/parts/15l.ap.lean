/-! ===== writes by tables of offsets: (what, offset, field or place, up to, value) ===== -/
abbrev WT : Type := Nat × Nat × Nat × Nat × Int32
def ap1 (x : Nat) (w : WT) (g : GT) : GT := match w.1 with
  | 0 => px_I g w.2.2.1 (x + w.2.1) w.2.2.2.2
  | 1 => px_A g (x + w.2.1) w.2.2.1 w.2.2.2.2
  | 2 => px_F g (x + w.2.1) w.2.2.1 w.2.2.2.1 w.2.2.2.2
  | _ => px_FL g (x + w.2.1) w.2.2.1 w.2.2.2.1 0
def ap (x : Nat) (ws : List WT) (g : GT) : GT := ws.foldr (ap1 x) g
theorem ap1_sq (x : Nat) (w : WT) (g : GT) : sq g (ap1 x w g) := by
  unfold ap1
  split
  · exact sqI sq0
  · exact sqA sq0
  · exact sqF sq0
  · exact sqFL sq0
theorem apq {x : Nat} {ws : List WT} {g : GT} : sq g (ap x ws g) := by
  induction ws with
  | nil => exact sq0
  | cons w t ih => exact ih.trans (ap1_sq x w _)
theorem ap_app {x : Nat} {a b : List WT} {g : GT} : ap x a (ap x b g) = ap x (a ++ b) g := by
  unfold ap
  rw [List.foldr_append]
def rI (a f : Nat) (ws : List WT) : Option Int32 := (ws.find? (fun w => w.1.beq 0 && (w.2.1.beq a && w.2.2.1.beq f))).map (fun w => w.2.2.2.2)
def rA (a j : Nat) (ws : List WT) : Option Int32 := (ws.find? (fun w => w.2.1.beq a && ((w.1.beq 1 && w.2.2.1.beq j) || (w.1.beq 2 && (w.2.2.1.ble j && (j + 1).ble w.2.2.2.1))))).map (fun w => w.2.2.2.2)
theorem ap_I (x a f : Nat) (ws : List WT) (g : GT) : gx_I (ap x ws g) f (x + a) = (rI a f ws).getD (gx_I g f (x + a)) := by
  induction ws with
  | nil => rfl
  | cons w t ih =>
    show gx_I (ap1 x w (ap x t g)) f (x + a) = _
    unfold rI
    rw [List.find?_cons]
    obtain ⟨o, b, c, d, v⟩ := w
    by_cases h : (o.beq 0 && (b.beq a && c.beq f)) = true
    · simp only [h]
      simp only [Bool.and_eq_true, Nat.beq_eq] at h
      obtain ⟨rfl, rfl, rfl⟩ := h
      show (if c = c ∧ x + b = x + b then v else _) = v
      rw [if_pos ⟨rfl, rfl⟩]
    · simp only [Bool.not_eq_true] at h
      simp only [h]
      show _ = (rI a f t).getD _
      rw [← ih]
      match o with
      | 0 =>
        show (if f = c ∧ x + a = x + b then v else gx_I (ap x t g) f (x + a)) = _
        rw [if_neg]
        rintro ⟨rfl, e⟩
        obtain rfl : a = b := by omega
        simp at h
      | 1 => rfl
      | 2 => rfl
      | (n + 3) => rfl
theorem ap_A (x a j : Nat) (ws : List WT) (g : GT) : gx_A (ap x ws g) (x + a) j = (rA a j ws).getD (gx_A g (x + a) j) := by
  induction ws with
  | nil => rfl
  | cons w t ih =>
    show gx_A (ap1 x w (ap x t g)) (x + a) j = _
    unfold rA
    rw [List.find?_cons]
    obtain ⟨o, b, c, d, v⟩ := w
    by_cases h : (b.beq a && ((o.beq 1 && c.beq j) || (o.beq 2 && (c.ble j && (j + 1).ble d)))) = true
    · simp only [h]
      simp only [Bool.and_eq_true, Bool.or_eq_true, Nat.beq_eq, Nat.ble_eq] at h
      obtain ⟨rfl, ⟨rfl, rfl⟩ | ⟨rfl, h1, h2⟩⟩ := h
      · show (if x + b = x + b ∧ c = c then v else _) = v
        rw [if_pos ⟨rfl, rfl⟩]
      · show (if x + b = x + b ∧ c ≤ j ∧ j < d then v else _) = v
        rw [if_pos ⟨rfl, h1, h2⟩]
    · have h' := h
      simp only [Bool.not_eq_true] at h
      simp only [h]
      show _ = (rA a j t).getD _
      rw [← ih]
      match o with
      | 0 => rfl
      | 1 =>
        show (if x + a = x + b ∧ j = c then v else gx_A (ap x t g) (x + a) j) = _
        rw [if_neg]
        rintro ⟨e, rfl⟩
        obtain rfl : a = b := by omega
        simp at h'
      | 2 =>
        show (if x + a = x + b ∧ c ≤ j ∧ j < d then v else gx_A (ap x t g) (x + a) j) = _
        rw [if_neg]
        rintro ⟨e, h1, h2⟩
        obtain rfl : a = b := by omega
        have h3 : (c.ble j && (j + 1).ble d) = true := by
          rw [Bool.and_eq_true, Nat.ble_eq, Nat.ble_eq]; exact ⟨h1, h2⟩
        simp [h3] at h'
      | (n + 3) => rfl
theorem apI {x a f : Nat} {ws : List WT} {g : GT} {v : Int32} (h : rI a f ws = some v) : gx_I (ap x ws g) f (x + a) = v := by rw [ap_I, h]; rfl
theorem apI0 {x a f : Nat} {ws : List WT} {g : GT} {v : Int32} (h : rI a f ws = none) (h0 : gx_I g f (x + a) = v) : gx_I (ap x ws g) f (x + a) = v := by rw [ap_I, h]; exact h0
theorem apA {x a j : Nat} {ws : List WT} {g : GT} {v : Int32} (h : rA a j ws = some v) : gx_A (ap x ws g) (x + a) j = v := by rw [ap_A, h]; rfl
theorem apA0 {x a j : Nat} {ws : List WT} {g : GT} {v : Int32} (h : rA a j ws = none) (h0 : gx_A g (x + a) j = v) : gx_A (ap x ws g) (x + a) j = v := by rw [ap_A, h]; exact h0
/-- cells that no write names are as they were -/
theorem ap_sm {x q : Nat} {ws : List WT} {g : GT} (h : ∀ w ∈ ws, q ≠ x + w.2.1) : sm g (ap x ws g) q := by
  induction ws with
  | nil => exact sm.refl
  | cons w t ih =>
    refine (ih fun w hw => h w (List.mem_cons_of_mem _ hw)).trans ?_
    have hq := h w List.mem_cons_self
    obtain ⟨o, b, c, d, v⟩ := w
    have hq : q ≠ x + b := hq
    show sm (ap x t g) (ap1 x (o, b, c, d, v) (ap x t g)) q
    match o with
    | 0 => exact ⟨rfl, rfl, fun f => if_neg (fun k => hq k.2), fun f => rfl, fun j => rfl, fun j => rfl, fun j => rfl⟩
    | 1 => exact ⟨rfl, rfl, fun f => rfl, fun f => rfl, fun j => if_neg (fun k => hq k.1), fun j => rfl, fun j => rfl⟩
    | 2 => exact ⟨rfl, rfl, fun f => rfl, fun f => rfl, fun j => if_neg (fun k => hq k.1), fun j => rfl, fun j => rfl⟩
    | (n + 3) => exact ⟨rfl, rfl, fun f => rfl, fun f => rfl, fun j => rfl, fun j => if_neg (fun k => hq k.1), fun j => rfl⟩
/-! facts by tables, each at its place -/
theorem fk {T : List (Nat × Nat × Nat) × List (Nat × Nat × Nat)} {g : GT} {x a k n : Nat} (h : sh T g x) (i : Nat) (hi : T.1[i]? = some (a, k, n)) : gx_K g (x + a) = k := sh_k h i hi
theorem fn {T : List (Nat × Nat × Nat) × List (Nat × Nat × Nat)} {g : GT} {x a k n : Nat} (h : sh T g x) (i : Nat) (hi : T.1[i]? = some (a, k, n)) : gx_N g (x + a) = n := sh_n h i hi
theorem fr {T : List (Nat × Nat × Nat) × List (Nat × Nat × Nat)} {g : GT} {x a f b : Nat} (h : sh T g x) (i : Nat) (hi : T.2[i]? = some (a, f, b)) : gx_R g f (x + a) = x + b := sh_r h i hi
def tI (I : List (Nat × Nat × Int32)) (g : GT) (x : Nat) : Prop := ∀ q ∈ I, gx_I g q.2.1 (x + q.1) = q.2.2
def tE (I : List (Nat × Nat × Int32)) (g : GT) (x : Nat) : Prop := ∀ q ∈ I, gx_A g (x + q.1) q.2.1 = q.2.2
def tA (A : List (Nat × Nat × Int32)) (g : GT) (x : Nat) : Prop := ∀ q ∈ A, ∀ j, j < q.2.1 → gx_A g (x + q.1) j = q.2.2
def tO (O : List (Nat × Nat × Nat)) (g : GT) (x : Nat) : Prop := ∀ q ∈ O, gx_O g (x + q.1) q.2.1 = x + q.2.2
theorem fi {I : List (Nat × Nat × Int32)} {g : GT} {x a f : Nat} {v : Int32} (h : tI I g x) (i : Nat) (hi : I[i]? = some (a, f, v)) : gx_I g f (x + a) = v := h _ (List.mem_of_getElem? hi)
theorem fe {I : List (Nat × Nat × Int32)} {g : GT} {x a f : Nat} {v : Int32} (h : tE I g x) (i : Nat) (hi : I[i]? = some (a, f, v)) : gx_A g (x + a) f = v := h _ (List.mem_of_getElem? hi)
theorem fa {I : List (Nat × Nat × Int32)} {g : GT} {x a n j : Nat} {v : Int32} (h : tA I g x) (i : Nat) (hi : I[i]? = some (a, n, v)) (hj : j < n) : gx_A g (x + a) j = v := h _ (List.mem_of_getElem? hi) j hj
theorem fo {I : List (Nat × Nat × Nat)} {g : GT} {x a j b : Nat} (h : tO I g x) (i : Nat) (hi : I[i]? = some (a, j, b)) : gx_O g (x + a) j = x + b := h _ (List.mem_of_getElem? hi)
theorem sh_app {T T' : List (Nat × Nat × Nat) × List (Nat × Nat × Nat)} {g : GT} {a : Nat} (h : sh T g a) (h' : sh T' g a) : sh (T.1 ++ T'.1, T.2 ++ T'.2) g a :=
  ⟨fun q hq => (List.mem_append.mp hq).elim (h.1 q) (h'.1 q), fun q hq => (List.mem_append.mp hq).elim (h.2 q) (h'.2 q)⟩
/-! values after writes, whole tables at once -/
theorem ap_tI {x : Nat} {ws : List WT} {g : GT} {I I0 : List (Nat × Nat × Int32)} (h0 : tI I0 g x) (h : I.all (fun q => decide (rI q.1 q.2.1 ws = some q.2.2) || (decide (rI q.1 q.2.1 ws = none) && decide (q ∈ I0))) = true) : tI I (ap x ws g) x := by
  intro q hq
  have := List.all_eq_true.mp h q hq
  rw [Bool.or_eq_true, Bool.and_eq_true, decide_eq_true_eq, decide_eq_true_eq, decide_eq_true_eq] at this
  rcases this with k | ⟨k, k1⟩
  · exact apI k
  · exact apI0 k (h0 q k1)
theorem ap_tE {x : Nat} {ws : List WT} {g : GT} {I : List (Nat × Nat × Int32)} (h : I.all (fun q => decide (rA q.1 q.2.1 ws = some q.2.2)) = true) : tE I (ap x ws g) x := by
  intro q hq
  have := List.all_eq_true.mp h q hq
  rw [decide_eq_true_eq] at this
  exact apA this
/-- the last write on a row fills it -/
def rF (a n : Nat) (v : Int32) (ws : List WT) : Bool := match ws.find? (fun w => (w.1.beq 1 || w.1.beq 2) && w.2.1.beq a) with
  | some (2, _, 0, n1, v1) => n.ble n1 && decide (v1 = v)
  | _ => false
theorem rF_rA {a n : Nat} {v : Int32} : ∀ {ws : List WT}, rF a n v ws = true → ∀ j, j < n → rA a j ws = some v := by
  intro ws
  induction ws with
  | nil => intro h; cases h
  | cons w t ih =>
    intro h j hj
    obtain ⟨o, b, c, d, u⟩ := w
    unfold rF at h
    rw [List.find?_cons] at h
    unfold rA
    rw [List.find?_cons]
    by_cases k : ((o.beq 1 || o.beq 2) && b.beq a) = true
    · simp only [k] at h
      simp only [Bool.and_eq_true, Bool.or_eq_true, Nat.beq_eq] at k
      obtain ⟨k1, rfl⟩ := k
      match o, c with
      | 2, 0 =>
        simp only [Bool.and_eq_true, decide_eq_true_eq, Nat.ble_eq] at h
        obtain ⟨h1, rfl⟩ := h
        have h3 : (j + 1).ble d = true := Nat.ble_eq.mpr (by omega)
        have h4 : Nat.ble 0 j = true := Nat.ble_eq.mpr (Nat.zero_le _)
        simp [h3, h4]
      | 0, _ => simp at k1
      | 1, _ => simp at h
      | 2, (c + 1) => simp at h
      | (o + 3), _ => simp at k1
    · simp only [Bool.not_eq_true] at k
      simp only [k] at h
      have h2 : (b.beq a && ((o.beq 1 && c.beq j) || (o.beq 2 && (c.ble j && (j + 1).ble d)))) = false := by
        cases e1 : b.beq a
        · rfl
        · rw [e1, Bool.and_true] at k
          rw [Bool.or_eq_false_iff] at k
          rw [k.1, k.2]; rfl
      simp only [h2]
      exact ih h j hj
theorem ap_tA {x : Nat} {ws : List WT} {g : GT} {I : List (Nat × Nat × Int32)} (h : I.all (fun q => rF q.1 q.2.1 q.2.2 ws) = true) : tA I (ap x ws g) x := by
  intro q hq j hj
  exact apA (rF_rA (List.all_eq_true.mp h q hq) j hj)
/-! rules whose heap is told by writes; switches on known numbers; callees that throw -/
section EA
variable {G : GE} {d mc ms : Nat} {M : MT} {pc : Nat} {ls : List (Nat × Value)} {st stk : List Value} {g : GT} {Q : RT → GT → Prop} {x : Nat} {ws : List WT}
theorem ex_top {v w : Int32} (e : v = w) (k : ex_W G d mc ms M pc ls (.int w :: st) g Q) : ex_W G d mc ms M pc ls (.int v :: st) g Q := by
  rw [e]; exact k
theorem ex_iincx {n : Nat} {j : Int} {v w : Int32} (hM : mt_ok M = true) (hf : mt_in M pc (.iinc n j) 3) (hv : ls.lookup n = some (.int v)) (e : v + Int32.ofInt j = w) (k : ex_W G d mc ms M (pc + 3) (lx_set ls n (.int w)) st g Q) : ex_W G d mc ms M pc ls st g Q := by
  subst e
  exact ex_iinc hM hf hv k
theorem ex_putIa {idx ci j a : Nat} {v w : Int32} (hM : mt_ok M = true) (hf : mt_in M pc (.putfield idx) 3) (hp : (mt_f M).lookup idx = some (ci, j)) (hr : fx_R ci j = false) (hk : gx_K g (x + a) = ci + 1) (hv : w = v) (k : ex_W G d mc ms M (pc + 3) ls st (ap x ((0, a, 100 * ci + j, 0, v) :: ws) g) Q) : ex_W G d mc ms M pc ls (.int w :: .ref (x + a) :: st) (ap x ws g) Q := by
  subst hv
  exact ex_putI hM hf hp (kq apq hk) hr k
theorem ex_iasta {a j N : Nat} {i v w : Int32} (hM : mt_ok M = true) (hf : mt_in M pc (.iastore) 1) (hk : gx_K g (x + a) = 50) (hN : gx_N g (x + a) = N) (hin : vp_in i N) (hj : i.toNatClampNeg = j) (hv : w = v) (k : ex_W G d mc ms M (pc + 1) ls st (ap x ((1, a, j, 0, v) :: ws) g) Q) : ex_W G d mc ms M pc ls (.int w :: .int i :: .ref (x + a) :: st) (ap x ws g) Q := by
  subst hv hj
  exact ex_iast hM hf (kq apq hk) (by rw [nq apq hN]; exact hin) k
theorem ex_basta {a j N : Nat} {i v w : Int32} (hM : mt_ok M = true) (hf : mt_in M pc (.bastore) 1) (hk : gx_K g (x + a) = 52) (hN : gx_N g (x + a) = N) (hin : vp_in i N) (hj : i.toNatClampNeg = j) (hv : w = v) (hx : v = 0 ∨ v = 1) (k : ex_W G d mc ms M (pc + 1) ls st (ap x ((1, a, j, 0, v) :: ws) g) Q) : ex_W G d mc ms M pc ls (.int w :: .int i :: .ref (x + a) :: st) (ap x ws g) Q := by
  subst hv hj
  exact ex_bast hM hf (kq apq hk) hx (by rw [nq apq hN]; exact hin) k
theorem ex_tblk {dflt lo hi : Int} {offs : Array Int} {len tgt : Nat} {v : Int32} (hM : mt_ok M = true) (hf : mt_in M pc (.tableswitch dflt lo hi offs) len) (ht : (pc : Int) + (if v.toInt < lo ∨ hi < v.toInt then dflt else (offs[(v.toInt - lo).toNat]?).getD 0) = (tgt : Int)) (ok : ∀ off ∈ offs.toList, 0 ≤ (pc : Int) + off) (hsz : (offs.size : Int) = hi - lo + 1) (ok2 : 0 ≤ (pc : Int) + dflt)
    (k : ex_W G d mc ms M tgt ls st g Q) : ex_W G d mc ms M pc ls (.int v :: st) g Q := by
  refine ex_table hM hf (fun off t h1 h2 h3 h4 => ?_) ok hsz (fun t h1 h2 => ?_) ok2
  · rw [if_neg (by omega), h3, Option.getD_some] at ht
    obtain rfl : t = tgt := by omega
    exact k
  · rw [if_pos h1] at ht
    obtain rfl : t = tgt := by omega
    exact k
def tv (e : Nat) (g : GT) : RT → GT → Prop := fun r g' => r = .inr (cx_E e) ∧ ∃ n, gx_Z g ≤ n ∧ g' = px_Z g n
theorem ex_callVt {idx n t d1 mc1 ms1 b e : Nat} {y : MethodName} {As : List Value} (hM : mt_ok M = true) (hf : mt_in M pc (.invokevirtual idx) 3) (hp : (mt_m M).lookup idx = some (y, n, t, d1, mc1, ms1)) (hcall : ex_M G d1 mc1 ms1 y (.ref b :: As) g (tv e g)) (hs : stk = As.reverse ++ .ref b :: st) (hk : gx_K g b = t - 10 + 1) (hh : mt_h M = []) (hlen : As.length = n) (ht : 10 ≤ t) (hd : d1 < d)
    (hcat : (st.map fun v => v.category).sum ≤ 8) (hm : mc1 ≤ mc ∧ ms1 ≤ ms) (k : ∀ n, gx_Z g ≤ n → Q (.inr (cx_E e)) (px_Z g n)) : ex_W G d mc ms M pc ls stk g Q := by
  rw [hs]
  refine ex_callV hM hf hp ht hh hd hlen hk hcat hm hcall (fun v' g' h => ?_) (fun E g' h => ?_)
  · obtain ⟨h1, -⟩ := h
    cases h1
  · obtain ⟨h1, n, h2, rfl⟩ := h
    cases h1
    exact k n h2
theorem ex_callSt {idx n d1 mc1 ms1 e : Nat} {y : MethodName} {As : List Value} (hM : mt_ok M = true) (hf : mt_in M pc (.invokestatic idx) 3) (hp : (mt_m M).lookup idx = some (y, n, 1, d1, mc1, ms1)) (hcall : ex_M G d1 mc1 ms1 y As g (tv e g)) (hs : stk = As.reverse ++ st) (hh : mt_h M = []) (hlen : As.length = n) (hd : d1 < d)
    (hcat : (st.map fun v => v.category).sum ≤ 8) (hm : mc1 ≤ mc ∧ ms1 ≤ ms) (k : ∀ n, gx_Z g ≤ n → Q (.inr (cx_E e)) (px_Z g n)) : ex_W G d mc ms M pc ls stk g Q := by
  rw [hs]
  refine ex_callS hM hf hp hh hd hlen hcat hm hcall (fun v' g' h => ?_) (fun E g' h => ?_)
  · obtain ⟨h1, -⟩ := h
    cases h1
  · obtain ⟨h1, n, h2, rfl⟩ := h
    cases h1
    exact k n h2
end EA
/-- all cells but the object's own are as they were -/
def kp (x n : Nat) (h h' : GT) : Prop := gx_Z h ≤ gx_Z h' ∧ ∀ q, q < x ∨ x + n ≤ q → sm h h' q
theorem kp_ap {x n : Nat} {ws : List WT} {g : GT} (h : ws.all (fun w => decide (w.2.1 < n)) = true) : kp x n g (ap x ws g) := by
  refine ⟨Nat.le_of_eq (zq apq rfl).symm, fun q hq => ap_sm fun w hw => ?_⟩
  have := of_decide_eq_true (List.all_eq_true.mp h w hw)
  omega
theorem kp0 {x n : Nat} {g : GT} : kp x n g g := ⟨Nat.le_refl _, fun _ _ => sm.refl⟩
theorem kpZ {x n m : Nat} {g g1 : GT} (h : kp x n g g1) (hn : gx_Z g1 ≤ m) : kp x n g (px_Z g1 m) := ⟨Nat.le_trans h.1 hn, h.2⟩
theorem inlI {a b : Int32} (h : a = b) : (Sum.inl (some (Value.int a)) : RT) = .inl (some (.int b)) := by rw [h]
theorem tx_261_265 : tx_ok "RoundKeepers" 261 265 100 = true := by decide +kernel
theorem tx_85_89 : tx_ok "RoundKeepers" 85 89 101 = true := by decide +kernel
theorem tx_256_260 : tx_ok "RoundKeepers" 256 260 102 = true := by decide +kernel
