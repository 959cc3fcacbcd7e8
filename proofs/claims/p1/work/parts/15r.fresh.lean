/-! ===== the fresh model ===== -/
def tG (A : List (Nat × Nat × Nat × Int32)) (g : GT) (x : Nat) : Prop := ∀ q ∈ A, ∀ j, q.2.1 ≤ j → j < q.2.2.1 → gx_A g (x + q.1) j = q.2.2.2
theorem fg {A : List (Nat × Nat × Nat × Int32)} {g : GT} {x a lo up j : Nat} {v : Int32} (h : tG A g x) (i : Nat) (hi : A[i]? = some (a, lo, up, v)) (h1 : lo ≤ j) (h2 : j < up) : gx_A g (x + a) j = v := h _ (List.mem_of_getElem? hi) j h1 h2
/-- what a stretch of a row holds after the writes -/
def rG (a lo hi : Nat) (v : Int32) : List WT → Bool
  | [] => false
  | w :: t => if w.2.1.beq a && (w.1.beq 1 && (lo.ble w.2.2.1 && (w.2.2.1 + 1).ble hi)) then false
    else if w.2.1.beq a && (w.1.beq 2 && (w.2.2.1.ble lo && hi.ble w.2.2.2.1)) then decide (w.2.2.2.2 = v)
    else if w.2.1.beq a && (w.1.beq 2 && ((w.2.2.1 + 1).ble hi && (lo + 1).ble w.2.2.2.1)) then false
    else rG a lo hi v t
theorem rG_rA {a lo hi : Nat} {v : Int32} : ∀ {ws : List WT}, rG a lo hi v ws = true → ∀ j, lo ≤ j → j < hi → rA a j ws = some v := by
  intro ws
  induction ws with
  | nil => intro h; cases h
  | cons w t ih =>
    intro h j h1 h2
    obtain ⟨o, b, c, d, u⟩ := w
    unfold rG at h
    unfold rA
    rw [List.find?_cons]
    by_cases k1 : (b.beq a && (o.beq 1 && (lo.ble c && (c + 1).ble hi))) = true
    · rw [if_pos k1] at h; cases h
    · rw [if_neg k1] at h
      by_cases k2 : (b.beq a && (o.beq 2 && (c.ble lo && hi.ble d))) = true
      · rw [if_pos k2] at h
        simp only [Bool.and_eq_true, Nat.beq_eq, Nat.ble_eq] at k2
        obtain ⟨rfl, rfl, k3, k4⟩ := k2
        have e1 : c.ble j = true := Nat.ble_eq.mpr (by omega)
        have e2 : (j + 1).ble d = true := Nat.ble_eq.mpr (by omega)
        have e3 : u = v := of_decide_eq_true h
        simp [e1, e2, e3]
      · rw [if_neg k2] at h
        by_cases k3 : (b.beq a && (o.beq 2 && ((c + 1).ble hi && (lo + 1).ble d))) = true
        · rw [if_pos k3] at h; cases h
        · rw [if_neg k3] at h
          have e : (b.beq a && ((o.beq 1 && c.beq j) || (o.beq 2 && (c.ble j && (j + 1).ble d)))) = false := by
            rw [Bool.eq_false_iff]
            intro e
            simp only [Bool.and_eq_true, Bool.or_eq_true, Nat.beq_eq, Nat.ble_eq] at e k1 k3
            obtain ⟨rfl, ⟨rfl, rfl⟩ | ⟨rfl, q1, q2⟩⟩ := e
            · exact k1 ⟨rfl, rfl, h1, h2⟩
            · exact k3 ⟨rfl, rfl, by omega, by omega⟩
          simp only [e]
          exact ih h j h1 h2
theorem ap_tG {x : Nat} {ws : List WT} {g : GT} {A : List (Nat × Nat × Nat × Int32)} (h : A.all (fun q => rG q.1 q.2.1 q.2.2.1 q.2.2.2 ws) = true) : tG A (ap x ws g) x := fun q hq j h1 h2 => apA (rG_rA (List.all_eq_true.mp h q hq) j h1 h2)
def IM : List (Nat × Nat × Int32) := [(0, 1266, nI 0), (0, 1265, nI 0), (0, 1264, nI 0), (0, 1263, nI 0), (0, 1262, nI 0), (0, 1248, nI 0), (0, 1200, nI 0)]
def EM : List (Nat × Nat × Int32) := [(44, 11, nI 0), (43, 11, -1), (44, 10, nI 0), (43, 10, -1), (44, 9, nI 0), (43, 9, -1), (44, 8, nI 0), (43, 8, -1), (44, 7, nI 0), (43, 7, -1), (44, 6, nI 0), (43, 6, -1), (44, 5, nI 0), (43, 5, -1), (44, 4, nI 0), (43, 4, -1), (44, 3, nI 0), (43, 3, -1), (44, 2, nI 0), (43, 2, -1), (44, 1, nI 0), (43, 1, -1), (44, 0, nI 0), (43, 0, -1), (42, 8, nI 0), (41, 8, nI 0), (40, 8, -1), (39, 8, -1), (37, 8, nI 0), (36, 8, nI 0), (35, 8, -1), (34, 8, nI 0), (42, 7, nI 0), (41, 7, nI 0), (40, 7, -1), (39, 7, -1), (37, 7, nI 0), (36, 7, nI 0), (35, 7, -1), (34, 7, nI 0), (42, 6, nI 0), (41, 6, nI 0), (40, 6, -1), (39, 6, -1), (37, 6, nI 0), (36, 6, nI 0), (35, 6, -1), (34, 6, nI 0), (42, 5, nI 0), (41, 5, nI 0), (40, 5, -1), (39, 5, -1), (37, 5, nI 0), (36, 5, nI 0), (35, 5, -1), (34, 5, nI 0), (42, 4, nI 0), (41, 4, nI 0), (40, 4, -1), (39, 4, -1), (37, 4, nI 0), (36, 4, nI 0), (35, 4, -1), (34, 4, nI 0), (42, 3, nI 0), (41, 3, nI 0), (40, 3, -1), (39, 3, -1), (37, 3, nI 0), (36, 3, nI 0), (35, 3, -1), (34, 3, nI 0), (42, 2, nI 0), (41, 2, nI 0), (40, 2, -1), (39, 2, -1), (37, 2, nI 0), (36, 2, nI 7), (35, 2, nI 0), (34, 2, nI 2), (42, 1, nI 0), (41, 1, nI 0), (40, 1, -1), (39, 1, -1), (37, 1, nI 0), (36, 1, nI 7), (35, 1, nI 0), (34, 1, nI 2), (42, 0, nI 0), (41, 0, nI 0), (40, 0, -1), (39, 0, -1), (37, 0, nI 0), (36, 0, nI 7), (35, 0, nI 0), (34, 0, nI 2), (33, 2, nI 0), (32, 2, -1), (30, 2, nI 0), (29, 2, nI 0), (28, 2, -1), (27, 2, nI 0), (26, 2, nI 0), (25, 2, nI 0), (24, 2, nI 0), (23, 2, nI 0), (22, 2, nI 0), (21, 2, nI 0), (20, 2, nI 0), (15, 2, nI 0), (14, 2, nI 0), (11, 2, nI 0), (10, 2, nI 0), (8, 2, nI 0), (7, 2, nI 0), (6, 2, nI 7), (5, 2, nI 0), (4, 2, nI 0), (3, 2, -1), (2, 2, nI 0), (33, 1, nI 0), (32, 1, -1), (30, 1, nI 0), (29, 1, nI 0), (28, 1, -1), (27, 1, nI 0), (26, 1, nI 0), (25, 1, nI 0), (24, 1, nI 0), (23, 1, nI 0), (22, 1, nI 0), (21, 1, nI 0), (20, 1, nI 0), (15, 1, nI 0), (14, 1, nI 0), (11, 1, nI 0), (10, 1, nI 0), (8, 1, nI 0), (7, 1, nI 0), (6, 1, nI 7), (5, 1, nI 0), (4, 1, nI 0), (3, 1, -1), (2, 1, nI 0), (33, 0, nI 0), (32, 0, -1), (30, 0, nI 0), (29, 0, nI 0), (28, 0, -1), (27, 0, nI 0), (26, 0, nI 0), (25, 0, nI 0), (24, 0, nI 0), (23, 0, nI 0), (22, 0, nI 0), (21, 0, nI 0), (20, 0, nI 0), (15, 0, nI 0), (14, 0, nI 0), (11, 0, nI 0), (10, 0, nI 0), (8, 0, nI 0), (7, 0, nI 0), (6, 0, nI 7), (5, 0, nI 0), (4, 0, nI 0), (3, 0, -1), (2, 0, nI 0)]
def RM : List (Nat × Nat × Nat × Int32) := [(59, 0, 16, -1), (58, 0, 4800, nI 0), (57, 0, 300, nI 0), (49, 0, 402, nI 0), (47, 0, 48, -1), (45, 0, 192, -1), (38, 0, 2700, nI 0), (31, 600, 900, nI 0), (12, 32, 48, -1), (16, 32, 48, nI 0), (17, 32, 48, -1), (18, 32, 48, nI 0), (19, 32, 48, nI 0), (9, 600, 900, nI 0), (31, 300, 600, nI 0), (12, 16, 32, -1), (16, 16, 32, nI 0), (17, 16, 32, -1), (18, 16, 32, nI 0), (19, 16, 32, nI 0), (9, 300, 600, nI 0), (31, 0, 300, nI 0), (12, 0, 16, -1), (16, 0, 16, nI 0), (17, 0, 16, -1), (18, 0, 16, nI 0), (19, 0, 16, nI 0), (9, 0, 300, nI 0), (1, 0, 27, nI 0)]
def FM (h : GT) (x : Nat) : Prop := sh T12 h x ∧ tI IM h x ∧ tE EM h x ∧ tG RM h x
theorem FM_WC {h : GT} {x : Nat} (hs : sh T12 h x) : FM (ap x WC h) x :=
  ⟨shq apq hs, ap_tI (I0 := []) (fun q hq => nomatch hq) (by decide +kernel), ap_tE (by decide +kernel), ap_tG (by decide +kernel)⟩
def MM (G : GE) (d mc ms : Nat) (y : MethodName) (x : Nat) (As : List Value) (k : Nat) (v : Int32) : Prop :=
  ∀ h, FM h x → ex_M G d mc ms y (.ref x :: As) h (fun r h' => ∃ u, r = .inl (some (.int u)) ∧ (k = 0 → u = v) ∧ gx_I h' 1200 x = nI k ∧ gx_K h' x = 13 ∧ kp x 60 h h')
theorem vlo {i : Int32} {n : Nat} (h : vp_in i n) (hn : n < 2 ^ 31) : 0 ≤ i := by
  obtain ⟨j, hj, rfl⟩ := vp_in_of h hn
  exact nI_pos' (by omega)
theorem vhi {i : Int32} {n : Nat} (h : vp_in i (n + 1)) (hn : n + 1 < 2 ^ 31) : i ≤ nI n := by
  obtain ⟨j, hj, rfl⟩ := vp_in_of h hn
  exact nI_le (by omega) (by omega)
theorem vbad {i : Int32} {n : Nat} (h : ¬ vp_in i (n + 1)) (hn : n + 1 < 2 ^ 31) : ¬ (0 ≤ i ∧ i ≤ nI n) := fun k => h (vin_le k.1 k.2 hn)
theorem m_in1 {G : GE} (hst : (ge_l G).stackTraces = false) {h : GT} {v lo hi : Int32} (h1 : lo ≤ v) (h2 : v ≤ hi) : ex_M G 1 0 0 my_X12_in [.int v, .int lo, .int hi] h (rv (some (.int (nI 1))) h) := by
  refine ex_M_of ok_X12_in cw_X12_in rfl hst (Nat.le_of_ble_eq_true rfl) ?_
  refine ex_iload_n ok_X12_in (mi 0 rfl) rfl ?_
  refine ex_iload_n ok_X12_in (mi 1 rfl) rfl ?_
  refine ex_icmp_lt (tgt := 14) ok_X12_in (mi 2 rfl) rfl (fun hc => False.elim (absurd h1 (by rw [Int32.not_le]; exact hc))) (fun _ => ?_)
  refine ex_iload_n ok_X12_in (mi 3 rfl) rfl ?_
  refine ex_iload_n ok_X12_in (mi 4 rfl) rfl ?_
  refine ex_icmp_gt (tgt := 14) ok_X12_in (mi 5 rfl) rfl (fun hc => False.elim (absurd h2 (by rw [Int32.not_le]; exact hc))) (fun h7 => ?_)
  refine ex_iconst ok_X12_in (mi 6 rfl) ?_
  refine ex_goto (tgt := 15) ok_X12_in (mi 7 rfl) rfl ?_
  refine ex_zret ok_X12_in (mi 9 rfl) rfl (by decide) ?_
  exact ⟨inlI (by decide), rfl⟩
theorem m_in0 {G : GE} (hst : (ge_l G).stackTraces = false) {h : GT} {v lo hi : Int32} (k : ¬ (lo ≤ v ∧ v ≤ hi)) : ex_M G 1 0 0 my_X12_in [.int v, .int lo, .int hi] h (rv (some (.int (nI 0))) h) := by
  refine ex_M_of ok_X12_in cw_X12_in rfl hst (Nat.le_of_ble_eq_true rfl) ?_
  refine ex_iload_n ok_X12_in (mi 0 rfl) rfl ?_
  refine ex_iload_n ok_X12_in (mi 1 rfl) rfl ?_
  refine ex_icmp_lt (tgt := 14) ok_X12_in (mi 2 rfl) rfl (fun h2 => ?_) (fun h2 => ?_)
  · skip
    refine ex_iconst ok_X12_in (mi 8 rfl) ?_
    refine ex_zret ok_X12_in (mi 9 rfl) rfl (by decide) ?_
    exact ⟨rfl, rfl⟩
  · skip
    refine ex_iload_n ok_X12_in (mi 3 rfl) rfl ?_
    refine ex_iload_n ok_X12_in (mi 4 rfl) rfl ?_
    refine ex_icmp_gt (tgt := 14) ok_X12_in (mi 5 rfl) rfl (fun h7 => ?_) (fun h7 => ?_)
    · skip
      refine ex_iconst ok_X12_in (mi 8 rfl) ?_
      refine ex_zret ok_X12_in (mi 9 rfl) rfl (by decide) ?_
      exact ⟨rfl, rfl⟩
    · skip
      refine ex_iconst ok_X12_in (mi 6 rfl) ?_
      refine ex_goto (tgt := 15) ok_X12_in (mi 7 rfl) rfl ?_
      refine ex_zret ok_X12_in (mi 9 rfl) rfl (by decide) ?_
      exact absurd ⟨by rw [← Int32.not_lt]; exact h2, by rw [← Int32.not_lt]; exact h7⟩ k
def bt (l : Int32) : Int32 := l &&& (l - 1)
def mb : Nat → Int32 → Int32 → Int32
  | 0, n, _ => n
  | f + 1, n, l => if l = 0 then n else mb f (n + 1) (bt l)
def md : Nat → Int32 → Bool
  | 0, l => decide (l = 0)
  | f + 1, l => if l = 0 then true else md f (bt l)
theorem lp_bits {G : GE} {h : GT} {v : Int32} {Q : RT → GT → Prop} : ∀ (f : Nat) (n l : Int32), md f l = true → Q (.inl (some (.int (mb f n l)))) h → ex_W G 1 0 0 M_X12_bits 4 [(0, .int v), (1, .int n), (2, .int l)] [] h Q := by
  intro f
  induction f with
  | zero =>
    intro n l hl hq
    have hl : l = 0 := of_decide_eq_true hl
    subst hl
    refine ex_iload_n ok_X12_bits (mi 4 rfl) rfl ?_
    refine ex_if_eq (tgt := 20) ok_X12_bits (mi 5 rfl) rfl (fun _ => ?_) (fun hn => absurd (by decide) hn)
    refine ex_iload_n ok_X12_bits (mi 14 rfl) rfl ?_
    refine ex_iret ok_X12_bits (mi 15 rfl) rfl ?_
    exact hq
  | succ f ih =>
    intro n l hl hq
    by_cases e : l = 0
    · subst e
      have hq : Q (.inl (some (.int n))) h := hq
      refine ex_iload_n ok_X12_bits (mi 4 rfl) rfl ?_
      refine ex_if_eq (tgt := 20) ok_X12_bits (mi 5 rfl) rfl (fun _ => ?_) (fun hn => absurd (by decide) hn)
      refine ex_iload_n ok_X12_bits (mi 14 rfl) rfl ?_
      refine ex_iret ok_X12_bits (mi 15 rfl) rfl ?_
      exact hq
    · have hl : md f (bt l) = true := by
        have k : (if l = 0 then true else md f (bt l)) = true := hl
        rw [if_neg e] at k
        exact k
      have hq : Q (.inl (some (.int (mb f (n + 1) (bt l))))) h := by
        have k : Q (.inl (some (.int (if l = 0 then n else mb f (n + 1) (bt l))))) h := hq
        rw [if_neg e] at k
        exact k
      refine ex_iload_n ok_X12_bits (mi 4 rfl) rfl ?_
      refine ex_if_eq (tgt := 20) ok_X12_bits (mi 5 rfl) rfl (fun h5 => False.elim (e h5)) (fun h5 => ?_)
      refine ex_iinc ok_X12_bits (mi 6 rfl) rfl ?_
      refine ex_iload_n ok_X12_bits (mi 7 rfl) rfl ?_
      refine ex_iload_n ok_X12_bits (mi 8 rfl) rfl ?_
      refine ex_iconst ok_X12_bits (mi 9 rfl) ?_
      refine ex_isub ok_X12_bits (mi 10 rfl) ?_
      refine ex_iand ok_X12_bits (mi 11 rfl) ?_
      refine ex_istore_n ok_X12_bits (mi 12 rfl) ?_
      refine ex_goto (tgt := 4) ok_X12_bits (mi 13 rfl) rfl ?_
      exact ex_ls (ls' := [(0, .int v), (1, .int (n + 1)), (2, .int (bt l))]) ⟨rfl, rfl, rfl, trivial⟩ (ih (n + 1) (bt l) hl hq)
theorem bits_e : ∀ a, a < 64 → ∀ b, b < 64 → md 12 (nI (64 * a + b)) = true ∧ mb 12 0 (nI (64 * a + b)) = bcE (nI (64 * a + b)) := by decide +kernel
theorem bits_d (q : Nat) (hq : q < 4096) : md 12 (nI q) = true ∧ mb 12 0 (nI q) = bcE (nI q) := by
  have k := bits_e (q / 64) (by omega) (q % 64) (by omega)
  rw [show 64 * (q / 64) + q % 64 = q by omega] at k
  exact k
theorem m_bits0 {G : GE} (hst : (ge_l G).stackTraces = false) {h : GT} {q : Nat} (hq : q < 4096) : ex_M G 1 0 0 my_X12_bits [.int (nI q)] h (rv (some (.int (bcE (nI q)))) h) := by
  refine ex_M_of ok_X12_bits cw_X12_bits rfl hst (Nat.le_of_ble_eq_true rfl) ?_
  refine ex_iconst ok_X12_bits (mi 0 rfl) ?_
  refine ex_istore_n ok_X12_bits (mi 1 rfl) ?_
  refine ex_iload_n ok_X12_bits (mi 2 rfl) rfl ?_
  refine ex_istore_n ok_X12_bits (mi 3 rfl) ?_
  exact ex_ls (ls' := [(0, .int (nI q)), (1, .int 0), (2, .int (nI q))]) ⟨rfl, rfl, rfl, trivial⟩ (lp_bits 12 0 (nI q) (bits_d q hq).1 ⟨by rw [(bits_d q hq).2], rfl⟩)
theorem m_bits {G : GE} (hst : (ge_l G).stackTraces = false) {h : GT} {v : Int32} (h1 : nI 1 ≤ v) (h2 : v ≤ nI 4095) : ex_M G 1 0 0 my_X12_bits [.int v] h (rv (some (.int (bcE v))) h) := by
  obtain ⟨q, hq, rfl⟩ := vp_in_of (vin_le (n := 4095) (Int32.le_trans (by decide) h1) h2 (by decide)) (by decide)
  exact m_bits0 hst hq
theorem lp_hist0 {G : GE} {x : Nat} {h : GT} {Q : RT → GT → Prop} (hs : sh T12 h x) (hg : tG RM h x) (hq : Q (.inl (some (.int (nI 0)))) h) : ∀ n r : Nat, r + n = 300 → ex_W G 1 0 0 M_X12_history 4 [(0, .ref x), (1, .int (nI 0)), (2, .int (nI 0)), (3, .int (nI r))] [] h Q := by
  intro n
  induction n with
  | zero =>
    intro r hr
    obtain rfl : r = 300 := by omega
    refine ex_iload_n ok_X12_history (mi 4 rfl) rfl ?_
    refine ex_sipush ok_X12_history (mi 5 rfl) ?_
    refine ex_icmp_ge (tgt := 40) ok_X12_history (mi 6 rfl) rfl (fun _ => ?_) (fun hn => absurd (by decide) hn)
    refine ex_iload_n ok_X12_history (mi 24 rfl) rfl ?_
    refine ex_iret ok_X12_history (mi 25 rfl) rfl ?_
    exact hq
  | succ n ih =>
    intro r hrn
    have hr : r < 300 := by omega
    refine ex_iload_n ok_X12_history (mi 4 rfl) rfl ?_
    refine ex_sipush ok_X12_history (mi 5 rfl) ?_
    refine ex_icmp_ge (tgt := 40) ok_X12_history (mi 6 rfl) rfl (fun h8 => False.elim (absurd h8 (nI_ge hr (by decide)))) (fun h8 => ?_)
    refine ex_iload_n ok_X12_history (mi 7 rfl) rfl ?_
    refine ex_aload_n ok_X12_history (mi 8 rfl) rfl ?_
    refine ex_getRx ok_X12_history (mi 9 rfl) rfl rfl (fk hs 0 rfl) (fr hs 8 rfl) (fk hs 9 rfl) (by decide) ?_
    refine ex_sipush ok_X12_history (mi 10 rfl) ?_
    refine ex_iload_n ok_X12_history (mi 11 rfl) rfl ?_
    refine ex_imul ok_X12_history (mi 12 rfl) ?_
    refine ex_top (w := (nI 0)) (by decide) ?_
    refine ex_iload_n ok_X12_history (mi 13 rfl) rfl ?_
    refine ex_iadd ok_X12_history (mi 14 rfl) ?_
    refine ex_top (w := (nI (0 + r))) (nI_add 0 r) ?_
    refine ex_ialdx ok_X12_history (mi 15 rfl) (Or.inl (fk hs 9 rfl)) (fn hs 9 rfl) (vp_in_nI (by omega) (by decide)) (fg hg 27 rfl (by rw [nI_clamp (by omega)]; omega) (by rw [nI_clamp (by omega)]; omega)) ?_
    refine ex_if_eq (tgt := 31) ok_X12_history (mi 16 rfl) rfl (fun _ => ?_) (fun hn => absurd (by decide) hn)
    refine ex_iconst ok_X12_history (mi 19 rfl) ?_
    refine ex_iadd ok_X12_history (mi 20 rfl) ?_
    refine ex_top (w := (nI 0)) (by decide) ?_
    refine ex_istore_n ok_X12_history (mi 21 rfl) ?_
    refine ex_iinc ok_X12_history (mi 22 rfl) rfl ?_
    refine ex_goto (tgt := 4) ok_X12_history (mi 23 rfl) rfl ?_
    exact ex_ls (ls' := [(0, .ref x), (1, .int (nI 0)), (2, .int (nI 0)), (3, .int (nI (r + 1)))]) ⟨rfl, rfl, rfl, by rw [nI_succ]; rfl, trivial⟩ (ih (r + 1) (by omega))
theorem m_hist0 {G : GE} (hst : (ge_l G).stackTraces = false) {x : Nat} {h : GT} (hs : sh T12 h x) (hg : tG RM h x) : ex_M G 1 0 0 my_X12_history [.ref x, .int (nI 0)] h (rv (some (.int (nI 0))) h) := by
  refine ex_M_of ok_X12_history cw_X12_history rfl hst (Nat.le_of_ble_eq_true rfl) ?_
  refine ex_iconst ok_X12_history (mi 0 rfl) ?_
  refine ex_istore_n ok_X12_history (mi 1 rfl) ?_
  refine ex_iconst ok_X12_history (mi 2 rfl) ?_
  refine ex_istore_n ok_X12_history (mi 3 rfl) ?_
  exact ex_ls (ls' := [(0, .ref x), (1, .int (nI 0)), (2, .int (nI 0)), (3, .int (nI 0))]) ⟨rfl, rfl, rfl, rfl, trivial⟩ (lp_hist0 hs hg ⟨rfl, rfl⟩ 300 0 rfl)
theorem lp_hist1 {G : GE} {x : Nat} {h : GT} {Q : RT → GT → Prop} (hs : sh T12 h x) (hg : tG RM h x) (hq : Q (.inl (some (.int (nI 0)))) h) : ∀ n r : Nat, r + n = 300 → ex_W G 1 0 0 M_X12_history 4 [(0, .ref x), (1, .int (nI 1)), (2, .int (nI 0)), (3, .int (nI r))] [] h Q := by
  intro n
  induction n with
  | zero =>
    intro r hr
    obtain rfl : r = 300 := by omega
    refine ex_iload_n ok_X12_history (mi 4 rfl) rfl ?_
    refine ex_sipush ok_X12_history (mi 5 rfl) ?_
    refine ex_icmp_ge (tgt := 40) ok_X12_history (mi 6 rfl) rfl (fun _ => ?_) (fun hn => absurd (by decide) hn)
    refine ex_iload_n ok_X12_history (mi 24 rfl) rfl ?_
    refine ex_iret ok_X12_history (mi 25 rfl) rfl ?_
    exact hq
  | succ n ih =>
    intro r hrn
    have hr : r < 300 := by omega
    refine ex_iload_n ok_X12_history (mi 4 rfl) rfl ?_
    refine ex_sipush ok_X12_history (mi 5 rfl) ?_
    refine ex_icmp_ge (tgt := 40) ok_X12_history (mi 6 rfl) rfl (fun h8 => False.elim (absurd h8 (nI_ge hr (by decide)))) (fun h8 => ?_)
    refine ex_iload_n ok_X12_history (mi 7 rfl) rfl ?_
    refine ex_aload_n ok_X12_history (mi 8 rfl) rfl ?_
    refine ex_getRx ok_X12_history (mi 9 rfl) rfl rfl (fk hs 0 rfl) (fr hs 8 rfl) (fk hs 9 rfl) (by decide) ?_
    refine ex_sipush ok_X12_history (mi 10 rfl) ?_
    refine ex_iload_n ok_X12_history (mi 11 rfl) rfl ?_
    refine ex_imul ok_X12_history (mi 12 rfl) ?_
    refine ex_top (w := (nI 300)) (by decide) ?_
    refine ex_iload_n ok_X12_history (mi 13 rfl) rfl ?_
    refine ex_iadd ok_X12_history (mi 14 rfl) ?_
    refine ex_top (w := (nI (300 + r))) (nI_add 300 r) ?_
    refine ex_ialdx ok_X12_history (mi 15 rfl) (Or.inl (fk hs 9 rfl)) (fn hs 9 rfl) (vp_in_nI (by omega) (by decide)) (fg hg 20 rfl (by rw [nI_clamp (by omega)]; omega) (by rw [nI_clamp (by omega)]; omega)) ?_
    refine ex_if_eq (tgt := 31) ok_X12_history (mi 16 rfl) rfl (fun _ => ?_) (fun hn => absurd (by decide) hn)
    refine ex_iconst ok_X12_history (mi 19 rfl) ?_
    refine ex_iadd ok_X12_history (mi 20 rfl) ?_
    refine ex_top (w := (nI 0)) (by decide) ?_
    refine ex_istore_n ok_X12_history (mi 21 rfl) ?_
    refine ex_iinc ok_X12_history (mi 22 rfl) rfl ?_
    refine ex_goto (tgt := 4) ok_X12_history (mi 23 rfl) rfl ?_
    exact ex_ls (ls' := [(0, .ref x), (1, .int (nI 1)), (2, .int (nI 0)), (3, .int (nI (r + 1)))]) ⟨rfl, rfl, rfl, by rw [nI_succ]; rfl, trivial⟩ (ih (r + 1) (by omega))
theorem m_hist1 {G : GE} (hst : (ge_l G).stackTraces = false) {x : Nat} {h : GT} (hs : sh T12 h x) (hg : tG RM h x) : ex_M G 1 0 0 my_X12_history [.ref x, .int (nI 1)] h (rv (some (.int (nI 0))) h) := by
  refine ex_M_of ok_X12_history cw_X12_history rfl hst (Nat.le_of_ble_eq_true rfl) ?_
  refine ex_iconst ok_X12_history (mi 0 rfl) ?_
  refine ex_istore_n ok_X12_history (mi 1 rfl) ?_
  refine ex_iconst ok_X12_history (mi 2 rfl) ?_
  refine ex_istore_n ok_X12_history (mi 3 rfl) ?_
  exact ex_ls (ls' := [(0, .ref x), (1, .int (nI 1)), (2, .int (nI 0)), (3, .int (nI 0))]) ⟨rfl, rfl, rfl, rfl, trivial⟩ (lp_hist1 hs hg ⟨rfl, rfl⟩ 300 0 rfl)
theorem lp_hist2 {G : GE} {x : Nat} {h : GT} {Q : RT → GT → Prop} (hs : sh T12 h x) (hg : tG RM h x) (hq : Q (.inl (some (.int (nI 0)))) h) : ∀ n r : Nat, r + n = 300 → ex_W G 1 0 0 M_X12_history 4 [(0, .ref x), (1, .int (nI 2)), (2, .int (nI 0)), (3, .int (nI r))] [] h Q := by
  intro n
  induction n with
  | zero =>
    intro r hr
    obtain rfl : r = 300 := by omega
    refine ex_iload_n ok_X12_history (mi 4 rfl) rfl ?_
    refine ex_sipush ok_X12_history (mi 5 rfl) ?_
    refine ex_icmp_ge (tgt := 40) ok_X12_history (mi 6 rfl) rfl (fun _ => ?_) (fun hn => absurd (by decide) hn)
    refine ex_iload_n ok_X12_history (mi 24 rfl) rfl ?_
    refine ex_iret ok_X12_history (mi 25 rfl) rfl ?_
    exact hq
  | succ n ih =>
    intro r hrn
    have hr : r < 300 := by omega
    refine ex_iload_n ok_X12_history (mi 4 rfl) rfl ?_
    refine ex_sipush ok_X12_history (mi 5 rfl) ?_
    refine ex_icmp_ge (tgt := 40) ok_X12_history (mi 6 rfl) rfl (fun h8 => False.elim (absurd h8 (nI_ge hr (by decide)))) (fun h8 => ?_)
    refine ex_iload_n ok_X12_history (mi 7 rfl) rfl ?_
    refine ex_aload_n ok_X12_history (mi 8 rfl) rfl ?_
    refine ex_getRx ok_X12_history (mi 9 rfl) rfl rfl (fk hs 0 rfl) (fr hs 8 rfl) (fk hs 9 rfl) (by decide) ?_
    refine ex_sipush ok_X12_history (mi 10 rfl) ?_
    refine ex_iload_n ok_X12_history (mi 11 rfl) rfl ?_
    refine ex_imul ok_X12_history (mi 12 rfl) ?_
    refine ex_top (w := (nI 600)) (by decide) ?_
    refine ex_iload_n ok_X12_history (mi 13 rfl) rfl ?_
    refine ex_iadd ok_X12_history (mi 14 rfl) ?_
    refine ex_top (w := (nI (600 + r))) (nI_add 600 r) ?_
    refine ex_ialdx ok_X12_history (mi 15 rfl) (Or.inl (fk hs 9 rfl)) (fn hs 9 rfl) (vp_in_nI (by omega) (by decide)) (fg hg 13 rfl (by rw [nI_clamp (by omega)]; omega) (by rw [nI_clamp (by omega)]; omega)) ?_
    refine ex_if_eq (tgt := 31) ok_X12_history (mi 16 rfl) rfl (fun _ => ?_) (fun hn => absurd (by decide) hn)
    refine ex_iconst ok_X12_history (mi 19 rfl) ?_
    refine ex_iadd ok_X12_history (mi 20 rfl) ?_
    refine ex_top (w := (nI 0)) (by decide) ?_
    refine ex_istore_n ok_X12_history (mi 21 rfl) ?_
    refine ex_iinc ok_X12_history (mi 22 rfl) rfl ?_
    refine ex_goto (tgt := 4) ok_X12_history (mi 23 rfl) rfl ?_
    exact ex_ls (ls' := [(0, .ref x), (1, .int (nI 2)), (2, .int (nI 0)), (3, .int (nI (r + 1)))]) ⟨rfl, rfl, rfl, by rw [nI_succ]; rfl, trivial⟩ (ih (r + 1) (by omega))
theorem m_hist2 {G : GE} (hst : (ge_l G).stackTraces = false) {x : Nat} {h : GT} (hs : sh T12 h x) (hg : tG RM h x) : ex_M G 1 0 0 my_X12_history [.ref x, .int (nI 2)] h (rv (some (.int (nI 0))) h) := by
  refine ex_M_of ok_X12_history cw_X12_history rfl hst (Nat.le_of_ble_eq_true rfl) ?_
  refine ex_iconst ok_X12_history (mi 0 rfl) ?_
  refine ex_istore_n ok_X12_history (mi 1 rfl) ?_
  refine ex_iconst ok_X12_history (mi 2 rfl) ?_
  refine ex_istore_n ok_X12_history (mi 3 rfl) ?_
  exact ex_ls (ls' := [(0, .ref x), (1, .int (nI 2)), (2, .int (nI 0)), (3, .int (nI 0))]) ⟨rfl, rfl, rfl, rfl, trivial⟩ (lp_hist2 hs hg ⟨rfl, rfl⟩ 300 0 rfl)
theorem lp_cent0 {G : GE} {x : Nat} {h : GT} {Q : RT → GT → Prop} (hs : sh T12 h x) (hg : tG RM h x) (hq : Q (.inl (some (.int (nI 0)))) h) : ∀ n r : Nat, r + n = 300 → ex_W G 1 0 0 M_X12_countEntries 4 [(0, .ref x), (1, .int (nI 0)), (2, .int (nI 0)), (3, .int (nI r))] [] h Q := by
  intro n
  induction n with
  | zero =>
    intro r hr
    obtain rfl : r = 300 := by omega
    refine ex_iload_n ok_X12_countEntries (mi 4 rfl) rfl ?_
    refine ex_sipush ok_X12_countEntries (mi 5 rfl) ?_
    refine ex_icmp_ge (tgt := 40) ok_X12_countEntries (mi 6 rfl) rfl (fun _ => ?_) (fun hn => absurd (by decide) hn)
    refine ex_iload_n ok_X12_countEntries (mi 24 rfl) rfl ?_
    refine ex_iret ok_X12_countEntries (mi 25 rfl) rfl ?_
    exact hq
  | succ n ih =>
    intro r hrn
    have hr : r < 300 := by omega
    refine ex_iload_n ok_X12_countEntries (mi 4 rfl) rfl ?_
    refine ex_sipush ok_X12_countEntries (mi 5 rfl) ?_
    refine ex_icmp_ge (tgt := 40) ok_X12_countEntries (mi 6 rfl) rfl (fun h8 => False.elim (absurd h8 (nI_ge hr (by decide)))) (fun h8 => ?_)
    refine ex_iload_n ok_X12_countEntries (mi 7 rfl) rfl ?_
    refine ex_aload_n ok_X12_countEntries (mi 8 rfl) rfl ?_
    refine ex_getRx ok_X12_countEntries (mi 9 rfl) rfl rfl (fk hs 0 rfl) (fr hs 37 rfl) (fk hs 38 rfl) (by decide) ?_
    refine ex_sipush ok_X12_countEntries (mi 10 rfl) ?_
    refine ex_iload_n ok_X12_countEntries (mi 11 rfl) rfl ?_
    refine ex_imul ok_X12_countEntries (mi 12 rfl) ?_
    refine ex_top (w := (nI 0)) (by decide) ?_
    refine ex_iload_n ok_X12_countEntries (mi 13 rfl) rfl ?_
    refine ex_iadd ok_X12_countEntries (mi 14 rfl) ?_
    refine ex_top (w := (nI (0 + r))) (nI_add 0 r) ?_
    refine ex_ialdx ok_X12_countEntries (mi 15 rfl) (Or.inl (fk hs 38 rfl)) (fn hs 38 rfl) (vp_in_nI (by omega) (by decide)) (fg hg 6 rfl (by rw [nI_clamp (by omega)]; omega) (by rw [nI_clamp (by omega)]; omega)) ?_
    refine ex_if_eq (tgt := 31) ok_X12_countEntries (mi 16 rfl) rfl (fun _ => ?_) (fun hn => absurd (by decide) hn)
    refine ex_iconst ok_X12_countEntries (mi 19 rfl) ?_
    refine ex_iadd ok_X12_countEntries (mi 20 rfl) ?_
    refine ex_top (w := (nI 0)) (by decide) ?_
    refine ex_istore_n ok_X12_countEntries (mi 21 rfl) ?_
    refine ex_iinc ok_X12_countEntries (mi 22 rfl) rfl ?_
    refine ex_goto (tgt := 4) ok_X12_countEntries (mi 23 rfl) rfl ?_
    exact ex_ls (ls' := [(0, .ref x), (1, .int (nI 0)), (2, .int (nI 0)), (3, .int (nI (r + 1)))]) ⟨rfl, rfl, rfl, by rw [nI_succ]; rfl, trivial⟩ (ih (r + 1) (by omega))
theorem m_cent0 {G : GE} (hst : (ge_l G).stackTraces = false) {x : Nat} {h : GT} (hs : sh T12 h x) (hg : tG RM h x) : ex_M G 1 0 0 my_X12_countEntries [.ref x, .int (nI 0)] h (rv (some (.int (nI 0))) h) := by
  refine ex_M_of ok_X12_countEntries cw_X12_countEntries rfl hst (Nat.le_of_ble_eq_true rfl) ?_
  refine ex_iconst ok_X12_countEntries (mi 0 rfl) ?_
  refine ex_istore_n ok_X12_countEntries (mi 1 rfl) ?_
  refine ex_iconst ok_X12_countEntries (mi 2 rfl) ?_
  refine ex_istore_n ok_X12_countEntries (mi 3 rfl) ?_
  exact ex_ls (ls' := [(0, .ref x), (1, .int (nI 0)), (2, .int (nI 0)), (3, .int (nI 0))]) ⟨rfl, rfl, rfl, rfl, trivial⟩ (lp_cent0 hs hg ⟨rfl, rfl⟩ 300 0 rfl)
theorem lp_cent1 {G : GE} {x : Nat} {h : GT} {Q : RT → GT → Prop} (hs : sh T12 h x) (hg : tG RM h x) (hq : Q (.inl (some (.int (nI 0)))) h) : ∀ n r : Nat, r + n = 300 → ex_W G 1 0 0 M_X12_countEntries 4 [(0, .ref x), (1, .int (nI 1)), (2, .int (nI 0)), (3, .int (nI r))] [] h Q := by
  intro n
  induction n with
  | zero =>
    intro r hr
    obtain rfl : r = 300 := by omega
    refine ex_iload_n ok_X12_countEntries (mi 4 rfl) rfl ?_
    refine ex_sipush ok_X12_countEntries (mi 5 rfl) ?_
    refine ex_icmp_ge (tgt := 40) ok_X12_countEntries (mi 6 rfl) rfl (fun _ => ?_) (fun hn => absurd (by decide) hn)
    refine ex_iload_n ok_X12_countEntries (mi 24 rfl) rfl ?_
    refine ex_iret ok_X12_countEntries (mi 25 rfl) rfl ?_
    exact hq
  | succ n ih =>
    intro r hrn
    have hr : r < 300 := by omega
    refine ex_iload_n ok_X12_countEntries (mi 4 rfl) rfl ?_
    refine ex_sipush ok_X12_countEntries (mi 5 rfl) ?_
    refine ex_icmp_ge (tgt := 40) ok_X12_countEntries (mi 6 rfl) rfl (fun h8 => False.elim (absurd h8 (nI_ge hr (by decide)))) (fun h8 => ?_)
    refine ex_iload_n ok_X12_countEntries (mi 7 rfl) rfl ?_
    refine ex_aload_n ok_X12_countEntries (mi 8 rfl) rfl ?_
    refine ex_getRx ok_X12_countEntries (mi 9 rfl) rfl rfl (fk hs 0 rfl) (fr hs 37 rfl) (fk hs 38 rfl) (by decide) ?_
    refine ex_sipush ok_X12_countEntries (mi 10 rfl) ?_
    refine ex_iload_n ok_X12_countEntries (mi 11 rfl) rfl ?_
    refine ex_imul ok_X12_countEntries (mi 12 rfl) ?_
    refine ex_top (w := (nI 300)) (by decide) ?_
    refine ex_iload_n ok_X12_countEntries (mi 13 rfl) rfl ?_
    refine ex_iadd ok_X12_countEntries (mi 14 rfl) ?_
    refine ex_top (w := (nI (300 + r))) (nI_add 300 r) ?_
    refine ex_ialdx ok_X12_countEntries (mi 15 rfl) (Or.inl (fk hs 38 rfl)) (fn hs 38 rfl) (vp_in_nI (by omega) (by decide)) (fg hg 6 rfl (by rw [nI_clamp (by omega)]; omega) (by rw [nI_clamp (by omega)]; omega)) ?_
    refine ex_if_eq (tgt := 31) ok_X12_countEntries (mi 16 rfl) rfl (fun _ => ?_) (fun hn => absurd (by decide) hn)
    refine ex_iconst ok_X12_countEntries (mi 19 rfl) ?_
    refine ex_iadd ok_X12_countEntries (mi 20 rfl) ?_
    refine ex_top (w := (nI 0)) (by decide) ?_
    refine ex_istore_n ok_X12_countEntries (mi 21 rfl) ?_
    refine ex_iinc ok_X12_countEntries (mi 22 rfl) rfl ?_
    refine ex_goto (tgt := 4) ok_X12_countEntries (mi 23 rfl) rfl ?_
    exact ex_ls (ls' := [(0, .ref x), (1, .int (nI 1)), (2, .int (nI 0)), (3, .int (nI (r + 1)))]) ⟨rfl, rfl, rfl, by rw [nI_succ]; rfl, trivial⟩ (ih (r + 1) (by omega))
theorem m_cent1 {G : GE} (hst : (ge_l G).stackTraces = false) {x : Nat} {h : GT} (hs : sh T12 h x) (hg : tG RM h x) : ex_M G 1 0 0 my_X12_countEntries [.ref x, .int (nI 1)] h (rv (some (.int (nI 0))) h) := by
  refine ex_M_of ok_X12_countEntries cw_X12_countEntries rfl hst (Nat.le_of_ble_eq_true rfl) ?_
  refine ex_iconst ok_X12_countEntries (mi 0 rfl) ?_
  refine ex_istore_n ok_X12_countEntries (mi 1 rfl) ?_
  refine ex_iconst ok_X12_countEntries (mi 2 rfl) ?_
  refine ex_istore_n ok_X12_countEntries (mi 3 rfl) ?_
  exact ex_ls (ls' := [(0, .ref x), (1, .int (nI 1)), (2, .int (nI 0)), (3, .int (nI 0))]) ⟨rfl, rfl, rfl, rfl, trivial⟩ (lp_cent1 hs hg ⟨rfl, rfl⟩ 300 0 rfl)
theorem lp_cent2 {G : GE} {x : Nat} {h : GT} {Q : RT → GT → Prop} (hs : sh T12 h x) (hg : tG RM h x) (hq : Q (.inl (some (.int (nI 0)))) h) : ∀ n r : Nat, r + n = 300 → ex_W G 1 0 0 M_X12_countEntries 4 [(0, .ref x), (1, .int (nI 2)), (2, .int (nI 0)), (3, .int (nI r))] [] h Q := by
  intro n
  induction n with
  | zero =>
    intro r hr
    obtain rfl : r = 300 := by omega
    refine ex_iload_n ok_X12_countEntries (mi 4 rfl) rfl ?_
    refine ex_sipush ok_X12_countEntries (mi 5 rfl) ?_
    refine ex_icmp_ge (tgt := 40) ok_X12_countEntries (mi 6 rfl) rfl (fun _ => ?_) (fun hn => absurd (by decide) hn)
    refine ex_iload_n ok_X12_countEntries (mi 24 rfl) rfl ?_
    refine ex_iret ok_X12_countEntries (mi 25 rfl) rfl ?_
    exact hq
  | succ n ih =>
    intro r hrn
    have hr : r < 300 := by omega
    refine ex_iload_n ok_X12_countEntries (mi 4 rfl) rfl ?_
    refine ex_sipush ok_X12_countEntries (mi 5 rfl) ?_
    refine ex_icmp_ge (tgt := 40) ok_X12_countEntries (mi 6 rfl) rfl (fun h8 => False.elim (absurd h8 (nI_ge hr (by decide)))) (fun h8 => ?_)
    refine ex_iload_n ok_X12_countEntries (mi 7 rfl) rfl ?_
    refine ex_aload_n ok_X12_countEntries (mi 8 rfl) rfl ?_
    refine ex_getRx ok_X12_countEntries (mi 9 rfl) rfl rfl (fk hs 0 rfl) (fr hs 37 rfl) (fk hs 38 rfl) (by decide) ?_
    refine ex_sipush ok_X12_countEntries (mi 10 rfl) ?_
    refine ex_iload_n ok_X12_countEntries (mi 11 rfl) rfl ?_
    refine ex_imul ok_X12_countEntries (mi 12 rfl) ?_
    refine ex_top (w := (nI 600)) (by decide) ?_
    refine ex_iload_n ok_X12_countEntries (mi 13 rfl) rfl ?_
    refine ex_iadd ok_X12_countEntries (mi 14 rfl) ?_
    refine ex_top (w := (nI (600 + r))) (nI_add 600 r) ?_
    refine ex_ialdx ok_X12_countEntries (mi 15 rfl) (Or.inl (fk hs 38 rfl)) (fn hs 38 rfl) (vp_in_nI (by omega) (by decide)) (fg hg 6 rfl (by rw [nI_clamp (by omega)]; omega) (by rw [nI_clamp (by omega)]; omega)) ?_
    refine ex_if_eq (tgt := 31) ok_X12_countEntries (mi 16 rfl) rfl (fun _ => ?_) (fun hn => absurd (by decide) hn)
    refine ex_iconst ok_X12_countEntries (mi 19 rfl) ?_
    refine ex_iadd ok_X12_countEntries (mi 20 rfl) ?_
    refine ex_top (w := (nI 0)) (by decide) ?_
    refine ex_istore_n ok_X12_countEntries (mi 21 rfl) ?_
    refine ex_iinc ok_X12_countEntries (mi 22 rfl) rfl ?_
    refine ex_goto (tgt := 4) ok_X12_countEntries (mi 23 rfl) rfl ?_
    exact ex_ls (ls' := [(0, .ref x), (1, .int (nI 2)), (2, .int (nI 0)), (3, .int (nI (r + 1)))]) ⟨rfl, rfl, rfl, by rw [nI_succ]; rfl, trivial⟩ (ih (r + 1) (by omega))
theorem m_cent2 {G : GE} (hst : (ge_l G).stackTraces = false) {x : Nat} {h : GT} (hs : sh T12 h x) (hg : tG RM h x) : ex_M G 1 0 0 my_X12_countEntries [.ref x, .int (nI 2)] h (rv (some (.int (nI 0))) h) := by
  refine ex_M_of ok_X12_countEntries cw_X12_countEntries rfl hst (Nat.le_of_ble_eq_true rfl) ?_
  refine ex_iconst ok_X12_countEntries (mi 0 rfl) ?_
  refine ex_istore_n ok_X12_countEntries (mi 1 rfl) ?_
  refine ex_iconst ok_X12_countEntries (mi 2 rfl) ?_
  refine ex_istore_n ok_X12_countEntries (mi 3 rfl) ?_
  exact ex_ls (ls' := [(0, .ref x), (1, .int (nI 2)), (2, .int (nI 0)), (3, .int (nI 0))]) ⟨rfl, rfl, rfl, rfl, trivial⟩ (lp_cent2 hs hg ⟨rfl, rfl⟩ 300 0 rfl)
theorem lp_cent3 {G : GE} {x : Nat} {h : GT} {Q : RT → GT → Prop} (hs : sh T12 h x) (hg : tG RM h x) (hq : Q (.inl (some (.int (nI 0)))) h) : ∀ n r : Nat, r + n = 300 → ex_W G 1 0 0 M_X12_countEntries 4 [(0, .ref x), (1, .int (nI 3)), (2, .int (nI 0)), (3, .int (nI r))] [] h Q := by
  intro n
  induction n with
  | zero =>
    intro r hr
    obtain rfl : r = 300 := by omega
    refine ex_iload_n ok_X12_countEntries (mi 4 rfl) rfl ?_
    refine ex_sipush ok_X12_countEntries (mi 5 rfl) ?_
    refine ex_icmp_ge (tgt := 40) ok_X12_countEntries (mi 6 rfl) rfl (fun _ => ?_) (fun hn => absurd (by decide) hn)
    refine ex_iload_n ok_X12_countEntries (mi 24 rfl) rfl ?_
    refine ex_iret ok_X12_countEntries (mi 25 rfl) rfl ?_
    exact hq
  | succ n ih =>
    intro r hrn
    have hr : r < 300 := by omega
    refine ex_iload_n ok_X12_countEntries (mi 4 rfl) rfl ?_
    refine ex_sipush ok_X12_countEntries (mi 5 rfl) ?_
    refine ex_icmp_ge (tgt := 40) ok_X12_countEntries (mi 6 rfl) rfl (fun h8 => False.elim (absurd h8 (nI_ge hr (by decide)))) (fun h8 => ?_)
    refine ex_iload_n ok_X12_countEntries (mi 7 rfl) rfl ?_
    refine ex_aload_n ok_X12_countEntries (mi 8 rfl) rfl ?_
    refine ex_getRx ok_X12_countEntries (mi 9 rfl) rfl rfl (fk hs 0 rfl) (fr hs 37 rfl) (fk hs 38 rfl) (by decide) ?_
    refine ex_sipush ok_X12_countEntries (mi 10 rfl) ?_
    refine ex_iload_n ok_X12_countEntries (mi 11 rfl) rfl ?_
    refine ex_imul ok_X12_countEntries (mi 12 rfl) ?_
    refine ex_top (w := (nI 900)) (by decide) ?_
    refine ex_iload_n ok_X12_countEntries (mi 13 rfl) rfl ?_
    refine ex_iadd ok_X12_countEntries (mi 14 rfl) ?_
    refine ex_top (w := (nI (900 + r))) (nI_add 900 r) ?_
    refine ex_ialdx ok_X12_countEntries (mi 15 rfl) (Or.inl (fk hs 38 rfl)) (fn hs 38 rfl) (vp_in_nI (by omega) (by decide)) (fg hg 6 rfl (by rw [nI_clamp (by omega)]; omega) (by rw [nI_clamp (by omega)]; omega)) ?_
    refine ex_if_eq (tgt := 31) ok_X12_countEntries (mi 16 rfl) rfl (fun _ => ?_) (fun hn => absurd (by decide) hn)
    refine ex_iconst ok_X12_countEntries (mi 19 rfl) ?_
    refine ex_iadd ok_X12_countEntries (mi 20 rfl) ?_
    refine ex_top (w := (nI 0)) (by decide) ?_
    refine ex_istore_n ok_X12_countEntries (mi 21 rfl) ?_
    refine ex_iinc ok_X12_countEntries (mi 22 rfl) rfl ?_
    refine ex_goto (tgt := 4) ok_X12_countEntries (mi 23 rfl) rfl ?_
    exact ex_ls (ls' := [(0, .ref x), (1, .int (nI 3)), (2, .int (nI 0)), (3, .int (nI (r + 1)))]) ⟨rfl, rfl, rfl, by rw [nI_succ]; rfl, trivial⟩ (ih (r + 1) (by omega))
theorem m_cent3 {G : GE} (hst : (ge_l G).stackTraces = false) {x : Nat} {h : GT} (hs : sh T12 h x) (hg : tG RM h x) : ex_M G 1 0 0 my_X12_countEntries [.ref x, .int (nI 3)] h (rv (some (.int (nI 0))) h) := by
  refine ex_M_of ok_X12_countEntries cw_X12_countEntries rfl hst (Nat.le_of_ble_eq_true rfl) ?_
  refine ex_iconst ok_X12_countEntries (mi 0 rfl) ?_
  refine ex_istore_n ok_X12_countEntries (mi 1 rfl) ?_
  refine ex_iconst ok_X12_countEntries (mi 2 rfl) ?_
  refine ex_istore_n ok_X12_countEntries (mi 3 rfl) ?_
  exact ex_ls (ls' := [(0, .ref x), (1, .int (nI 3)), (2, .int (nI 0)), (3, .int (nI 0))]) ⟨rfl, rfl, rfl, rfl, trivial⟩ (lp_cent3 hs hg ⟨rfl, rfl⟩ 300 0 rfl)
theorem lp_cent4 {G : GE} {x : Nat} {h : GT} {Q : RT → GT → Prop} (hs : sh T12 h x) (hg : tG RM h x) (hq : Q (.inl (some (.int (nI 0)))) h) : ∀ n r : Nat, r + n = 300 → ex_W G 1 0 0 M_X12_countEntries 4 [(0, .ref x), (1, .int (nI 4)), (2, .int (nI 0)), (3, .int (nI r))] [] h Q := by
  intro n
  induction n with
  | zero =>
    intro r hr
    obtain rfl : r = 300 := by omega
    refine ex_iload_n ok_X12_countEntries (mi 4 rfl) rfl ?_
    refine ex_sipush ok_X12_countEntries (mi 5 rfl) ?_
    refine ex_icmp_ge (tgt := 40) ok_X12_countEntries (mi 6 rfl) rfl (fun _ => ?_) (fun hn => absurd (by decide) hn)
    refine ex_iload_n ok_X12_countEntries (mi 24 rfl) rfl ?_
    refine ex_iret ok_X12_countEntries (mi 25 rfl) rfl ?_
    exact hq
  | succ n ih =>
    intro r hrn
    have hr : r < 300 := by omega
    refine ex_iload_n ok_X12_countEntries (mi 4 rfl) rfl ?_
    refine ex_sipush ok_X12_countEntries (mi 5 rfl) ?_
    refine ex_icmp_ge (tgt := 40) ok_X12_countEntries (mi 6 rfl) rfl (fun h8 => False.elim (absurd h8 (nI_ge hr (by decide)))) (fun h8 => ?_)
    refine ex_iload_n ok_X12_countEntries (mi 7 rfl) rfl ?_
    refine ex_aload_n ok_X12_countEntries (mi 8 rfl) rfl ?_
    refine ex_getRx ok_X12_countEntries (mi 9 rfl) rfl rfl (fk hs 0 rfl) (fr hs 37 rfl) (fk hs 38 rfl) (by decide) ?_
    refine ex_sipush ok_X12_countEntries (mi 10 rfl) ?_
    refine ex_iload_n ok_X12_countEntries (mi 11 rfl) rfl ?_
    refine ex_imul ok_X12_countEntries (mi 12 rfl) ?_
    refine ex_top (w := (nI 1200)) (by decide) ?_
    refine ex_iload_n ok_X12_countEntries (mi 13 rfl) rfl ?_
    refine ex_iadd ok_X12_countEntries (mi 14 rfl) ?_
    refine ex_top (w := (nI (1200 + r))) (nI_add 1200 r) ?_
    refine ex_ialdx ok_X12_countEntries (mi 15 rfl) (Or.inl (fk hs 38 rfl)) (fn hs 38 rfl) (vp_in_nI (by omega) (by decide)) (fg hg 6 rfl (by rw [nI_clamp (by omega)]; omega) (by rw [nI_clamp (by omega)]; omega)) ?_
    refine ex_if_eq (tgt := 31) ok_X12_countEntries (mi 16 rfl) rfl (fun _ => ?_) (fun hn => absurd (by decide) hn)
    refine ex_iconst ok_X12_countEntries (mi 19 rfl) ?_
    refine ex_iadd ok_X12_countEntries (mi 20 rfl) ?_
    refine ex_top (w := (nI 0)) (by decide) ?_
    refine ex_istore_n ok_X12_countEntries (mi 21 rfl) ?_
    refine ex_iinc ok_X12_countEntries (mi 22 rfl) rfl ?_
    refine ex_goto (tgt := 4) ok_X12_countEntries (mi 23 rfl) rfl ?_
    exact ex_ls (ls' := [(0, .ref x), (1, .int (nI 4)), (2, .int (nI 0)), (3, .int (nI (r + 1)))]) ⟨rfl, rfl, rfl, by rw [nI_succ]; rfl, trivial⟩ (ih (r + 1) (by omega))
theorem m_cent4 {G : GE} (hst : (ge_l G).stackTraces = false) {x : Nat} {h : GT} (hs : sh T12 h x) (hg : tG RM h x) : ex_M G 1 0 0 my_X12_countEntries [.ref x, .int (nI 4)] h (rv (some (.int (nI 0))) h) := by
  refine ex_M_of ok_X12_countEntries cw_X12_countEntries rfl hst (Nat.le_of_ble_eq_true rfl) ?_
  refine ex_iconst ok_X12_countEntries (mi 0 rfl) ?_
  refine ex_istore_n ok_X12_countEntries (mi 1 rfl) ?_
  refine ex_iconst ok_X12_countEntries (mi 2 rfl) ?_
  refine ex_istore_n ok_X12_countEntries (mi 3 rfl) ?_
  exact ex_ls (ls' := [(0, .ref x), (1, .int (nI 4)), (2, .int (nI 0)), (3, .int (nI 0))]) ⟨rfl, rfl, rfl, rfl, trivial⟩ (lp_cent4 hs hg ⟨rfl, rfl⟩ 300 0 rfl)
theorem lp_cent5 {G : GE} {x : Nat} {h : GT} {Q : RT → GT → Prop} (hs : sh T12 h x) (hg : tG RM h x) (hq : Q (.inl (some (.int (nI 0)))) h) : ∀ n r : Nat, r + n = 300 → ex_W G 1 0 0 M_X12_countEntries 4 [(0, .ref x), (1, .int (nI 5)), (2, .int (nI 0)), (3, .int (nI r))] [] h Q := by
  intro n
  induction n with
  | zero =>
    intro r hr
    obtain rfl : r = 300 := by omega
    refine ex_iload_n ok_X12_countEntries (mi 4 rfl) rfl ?_
    refine ex_sipush ok_X12_countEntries (mi 5 rfl) ?_
    refine ex_icmp_ge (tgt := 40) ok_X12_countEntries (mi 6 rfl) rfl (fun _ => ?_) (fun hn => absurd (by decide) hn)
    refine ex_iload_n ok_X12_countEntries (mi 24 rfl) rfl ?_
    refine ex_iret ok_X12_countEntries (mi 25 rfl) rfl ?_
    exact hq
  | succ n ih =>
    intro r hrn
    have hr : r < 300 := by omega
    refine ex_iload_n ok_X12_countEntries (mi 4 rfl) rfl ?_
    refine ex_sipush ok_X12_countEntries (mi 5 rfl) ?_
    refine ex_icmp_ge (tgt := 40) ok_X12_countEntries (mi 6 rfl) rfl (fun h8 => False.elim (absurd h8 (nI_ge hr (by decide)))) (fun h8 => ?_)
    refine ex_iload_n ok_X12_countEntries (mi 7 rfl) rfl ?_
    refine ex_aload_n ok_X12_countEntries (mi 8 rfl) rfl ?_
    refine ex_getRx ok_X12_countEntries (mi 9 rfl) rfl rfl (fk hs 0 rfl) (fr hs 37 rfl) (fk hs 38 rfl) (by decide) ?_
    refine ex_sipush ok_X12_countEntries (mi 10 rfl) ?_
    refine ex_iload_n ok_X12_countEntries (mi 11 rfl) rfl ?_
    refine ex_imul ok_X12_countEntries (mi 12 rfl) ?_
    refine ex_top (w := (nI 1500)) (by decide) ?_
    refine ex_iload_n ok_X12_countEntries (mi 13 rfl) rfl ?_
    refine ex_iadd ok_X12_countEntries (mi 14 rfl) ?_
    refine ex_top (w := (nI (1500 + r))) (nI_add 1500 r) ?_
    refine ex_ialdx ok_X12_countEntries (mi 15 rfl) (Or.inl (fk hs 38 rfl)) (fn hs 38 rfl) (vp_in_nI (by omega) (by decide)) (fg hg 6 rfl (by rw [nI_clamp (by omega)]; omega) (by rw [nI_clamp (by omega)]; omega)) ?_
    refine ex_if_eq (tgt := 31) ok_X12_countEntries (mi 16 rfl) rfl (fun _ => ?_) (fun hn => absurd (by decide) hn)
    refine ex_iconst ok_X12_countEntries (mi 19 rfl) ?_
    refine ex_iadd ok_X12_countEntries (mi 20 rfl) ?_
    refine ex_top (w := (nI 0)) (by decide) ?_
    refine ex_istore_n ok_X12_countEntries (mi 21 rfl) ?_
    refine ex_iinc ok_X12_countEntries (mi 22 rfl) rfl ?_
    refine ex_goto (tgt := 4) ok_X12_countEntries (mi 23 rfl) rfl ?_
    exact ex_ls (ls' := [(0, .ref x), (1, .int (nI 5)), (2, .int (nI 0)), (3, .int (nI (r + 1)))]) ⟨rfl, rfl, rfl, by rw [nI_succ]; rfl, trivial⟩ (ih (r + 1) (by omega))
theorem m_cent5 {G : GE} (hst : (ge_l G).stackTraces = false) {x : Nat} {h : GT} (hs : sh T12 h x) (hg : tG RM h x) : ex_M G 1 0 0 my_X12_countEntries [.ref x, .int (nI 5)] h (rv (some (.int (nI 0))) h) := by
  refine ex_M_of ok_X12_countEntries cw_X12_countEntries rfl hst (Nat.le_of_ble_eq_true rfl) ?_
  refine ex_iconst ok_X12_countEntries (mi 0 rfl) ?_
  refine ex_istore_n ok_X12_countEntries (mi 1 rfl) ?_
  refine ex_iconst ok_X12_countEntries (mi 2 rfl) ?_
  refine ex_istore_n ok_X12_countEntries (mi 3 rfl) ?_
  exact ex_ls (ls' := [(0, .ref x), (1, .int (nI 5)), (2, .int (nI 0)), (3, .int (nI 0))]) ⟨rfl, rfl, rfl, rfl, trivial⟩ (lp_cent5 hs hg ⟨rfl, rfl⟩ 300 0 rfl)
theorem lp_cent6 {G : GE} {x : Nat} {h : GT} {Q : RT → GT → Prop} (hs : sh T12 h x) (hg : tG RM h x) (hq : Q (.inl (some (.int (nI 0)))) h) : ∀ n r : Nat, r + n = 300 → ex_W G 1 0 0 M_X12_countEntries 4 [(0, .ref x), (1, .int (nI 6)), (2, .int (nI 0)), (3, .int (nI r))] [] h Q := by
  intro n
  induction n with
  | zero =>
    intro r hr
    obtain rfl : r = 300 := by omega
    refine ex_iload_n ok_X12_countEntries (mi 4 rfl) rfl ?_
    refine ex_sipush ok_X12_countEntries (mi 5 rfl) ?_
    refine ex_icmp_ge (tgt := 40) ok_X12_countEntries (mi 6 rfl) rfl (fun _ => ?_) (fun hn => absurd (by decide) hn)
    refine ex_iload_n ok_X12_countEntries (mi 24 rfl) rfl ?_
    refine ex_iret ok_X12_countEntries (mi 25 rfl) rfl ?_
    exact hq
  | succ n ih =>
    intro r hrn
    have hr : r < 300 := by omega
    refine ex_iload_n ok_X12_countEntries (mi 4 rfl) rfl ?_
    refine ex_sipush ok_X12_countEntries (mi 5 rfl) ?_
    refine ex_icmp_ge (tgt := 40) ok_X12_countEntries (mi 6 rfl) rfl (fun h8 => False.elim (absurd h8 (nI_ge hr (by decide)))) (fun h8 => ?_)
    refine ex_iload_n ok_X12_countEntries (mi 7 rfl) rfl ?_
    refine ex_aload_n ok_X12_countEntries (mi 8 rfl) rfl ?_
    refine ex_getRx ok_X12_countEntries (mi 9 rfl) rfl rfl (fk hs 0 rfl) (fr hs 37 rfl) (fk hs 38 rfl) (by decide) ?_
    refine ex_sipush ok_X12_countEntries (mi 10 rfl) ?_
    refine ex_iload_n ok_X12_countEntries (mi 11 rfl) rfl ?_
    refine ex_imul ok_X12_countEntries (mi 12 rfl) ?_
    refine ex_top (w := (nI 1800)) (by decide) ?_
    refine ex_iload_n ok_X12_countEntries (mi 13 rfl) rfl ?_
    refine ex_iadd ok_X12_countEntries (mi 14 rfl) ?_
    refine ex_top (w := (nI (1800 + r))) (nI_add 1800 r) ?_
    refine ex_ialdx ok_X12_countEntries (mi 15 rfl) (Or.inl (fk hs 38 rfl)) (fn hs 38 rfl) (vp_in_nI (by omega) (by decide)) (fg hg 6 rfl (by rw [nI_clamp (by omega)]; omega) (by rw [nI_clamp (by omega)]; omega)) ?_
    refine ex_if_eq (tgt := 31) ok_X12_countEntries (mi 16 rfl) rfl (fun _ => ?_) (fun hn => absurd (by decide) hn)
    refine ex_iconst ok_X12_countEntries (mi 19 rfl) ?_
    refine ex_iadd ok_X12_countEntries (mi 20 rfl) ?_
    refine ex_top (w := (nI 0)) (by decide) ?_
    refine ex_istore_n ok_X12_countEntries (mi 21 rfl) ?_
    refine ex_iinc ok_X12_countEntries (mi 22 rfl) rfl ?_
    refine ex_goto (tgt := 4) ok_X12_countEntries (mi 23 rfl) rfl ?_
    exact ex_ls (ls' := [(0, .ref x), (1, .int (nI 6)), (2, .int (nI 0)), (3, .int (nI (r + 1)))]) ⟨rfl, rfl, rfl, by rw [nI_succ]; rfl, trivial⟩ (ih (r + 1) (by omega))
theorem m_cent6 {G : GE} (hst : (ge_l G).stackTraces = false) {x : Nat} {h : GT} (hs : sh T12 h x) (hg : tG RM h x) : ex_M G 1 0 0 my_X12_countEntries [.ref x, .int (nI 6)] h (rv (some (.int (nI 0))) h) := by
  refine ex_M_of ok_X12_countEntries cw_X12_countEntries rfl hst (Nat.le_of_ble_eq_true rfl) ?_
  refine ex_iconst ok_X12_countEntries (mi 0 rfl) ?_
  refine ex_istore_n ok_X12_countEntries (mi 1 rfl) ?_
  refine ex_iconst ok_X12_countEntries (mi 2 rfl) ?_
  refine ex_istore_n ok_X12_countEntries (mi 3 rfl) ?_
  exact ex_ls (ls' := [(0, .ref x), (1, .int (nI 6)), (2, .int (nI 0)), (3, .int (nI 0))]) ⟨rfl, rfl, rfl, rfl, trivial⟩ (lp_cent6 hs hg ⟨rfl, rfl⟩ 300 0 rfl)
theorem lp_cent7 {G : GE} {x : Nat} {h : GT} {Q : RT → GT → Prop} (hs : sh T12 h x) (hg : tG RM h x) (hq : Q (.inl (some (.int (nI 0)))) h) : ∀ n r : Nat, r + n = 300 → ex_W G 1 0 0 M_X12_countEntries 4 [(0, .ref x), (1, .int (nI 7)), (2, .int (nI 0)), (3, .int (nI r))] [] h Q := by
  intro n
  induction n with
  | zero =>
    intro r hr
    obtain rfl : r = 300 := by omega
    refine ex_iload_n ok_X12_countEntries (mi 4 rfl) rfl ?_
    refine ex_sipush ok_X12_countEntries (mi 5 rfl) ?_
    refine ex_icmp_ge (tgt := 40) ok_X12_countEntries (mi 6 rfl) rfl (fun _ => ?_) (fun hn => absurd (by decide) hn)
    refine ex_iload_n ok_X12_countEntries (mi 24 rfl) rfl ?_
    refine ex_iret ok_X12_countEntries (mi 25 rfl) rfl ?_
    exact hq
  | succ n ih =>
    intro r hrn
    have hr : r < 300 := by omega
    refine ex_iload_n ok_X12_countEntries (mi 4 rfl) rfl ?_
    refine ex_sipush ok_X12_countEntries (mi 5 rfl) ?_
    refine ex_icmp_ge (tgt := 40) ok_X12_countEntries (mi 6 rfl) rfl (fun h8 => False.elim (absurd h8 (nI_ge hr (by decide)))) (fun h8 => ?_)
    refine ex_iload_n ok_X12_countEntries (mi 7 rfl) rfl ?_
    refine ex_aload_n ok_X12_countEntries (mi 8 rfl) rfl ?_
    refine ex_getRx ok_X12_countEntries (mi 9 rfl) rfl rfl (fk hs 0 rfl) (fr hs 37 rfl) (fk hs 38 rfl) (by decide) ?_
    refine ex_sipush ok_X12_countEntries (mi 10 rfl) ?_
    refine ex_iload_n ok_X12_countEntries (mi 11 rfl) rfl ?_
    refine ex_imul ok_X12_countEntries (mi 12 rfl) ?_
    refine ex_top (w := (nI 2100)) (by decide) ?_
    refine ex_iload_n ok_X12_countEntries (mi 13 rfl) rfl ?_
    refine ex_iadd ok_X12_countEntries (mi 14 rfl) ?_
    refine ex_top (w := (nI (2100 + r))) (nI_add 2100 r) ?_
    refine ex_ialdx ok_X12_countEntries (mi 15 rfl) (Or.inl (fk hs 38 rfl)) (fn hs 38 rfl) (vp_in_nI (by omega) (by decide)) (fg hg 6 rfl (by rw [nI_clamp (by omega)]; omega) (by rw [nI_clamp (by omega)]; omega)) ?_
    refine ex_if_eq (tgt := 31) ok_X12_countEntries (mi 16 rfl) rfl (fun _ => ?_) (fun hn => absurd (by decide) hn)
    refine ex_iconst ok_X12_countEntries (mi 19 rfl) ?_
    refine ex_iadd ok_X12_countEntries (mi 20 rfl) ?_
    refine ex_top (w := (nI 0)) (by decide) ?_
    refine ex_istore_n ok_X12_countEntries (mi 21 rfl) ?_
    refine ex_iinc ok_X12_countEntries (mi 22 rfl) rfl ?_
    refine ex_goto (tgt := 4) ok_X12_countEntries (mi 23 rfl) rfl ?_
    exact ex_ls (ls' := [(0, .ref x), (1, .int (nI 7)), (2, .int (nI 0)), (3, .int (nI (r + 1)))]) ⟨rfl, rfl, rfl, by rw [nI_succ]; rfl, trivial⟩ (ih (r + 1) (by omega))
theorem m_cent7 {G : GE} (hst : (ge_l G).stackTraces = false) {x : Nat} {h : GT} (hs : sh T12 h x) (hg : tG RM h x) : ex_M G 1 0 0 my_X12_countEntries [.ref x, .int (nI 7)] h (rv (some (.int (nI 0))) h) := by
  refine ex_M_of ok_X12_countEntries cw_X12_countEntries rfl hst (Nat.le_of_ble_eq_true rfl) ?_
  refine ex_iconst ok_X12_countEntries (mi 0 rfl) ?_
  refine ex_istore_n ok_X12_countEntries (mi 1 rfl) ?_
  refine ex_iconst ok_X12_countEntries (mi 2 rfl) ?_
  refine ex_istore_n ok_X12_countEntries (mi 3 rfl) ?_
  exact ex_ls (ls' := [(0, .ref x), (1, .int (nI 7)), (2, .int (nI 0)), (3, .int (nI 0))]) ⟨rfl, rfl, rfl, rfl, trivial⟩ (lp_cent7 hs hg ⟨rfl, rfl⟩ 300 0 rfl)
theorem lp_cent8 {G : GE} {x : Nat} {h : GT} {Q : RT → GT → Prop} (hs : sh T12 h x) (hg : tG RM h x) (hq : Q (.inl (some (.int (nI 0)))) h) : ∀ n r : Nat, r + n = 300 → ex_W G 1 0 0 M_X12_countEntries 4 [(0, .ref x), (1, .int (nI 8)), (2, .int (nI 0)), (3, .int (nI r))] [] h Q := by
  intro n
  induction n with
  | zero =>
    intro r hr
    obtain rfl : r = 300 := by omega
    refine ex_iload_n ok_X12_countEntries (mi 4 rfl) rfl ?_
    refine ex_sipush ok_X12_countEntries (mi 5 rfl) ?_
    refine ex_icmp_ge (tgt := 40) ok_X12_countEntries (mi 6 rfl) rfl (fun _ => ?_) (fun hn => absurd (by decide) hn)
    refine ex_iload_n ok_X12_countEntries (mi 24 rfl) rfl ?_
    refine ex_iret ok_X12_countEntries (mi 25 rfl) rfl ?_
    exact hq
  | succ n ih =>
    intro r hrn
    have hr : r < 300 := by omega
    refine ex_iload_n ok_X12_countEntries (mi 4 rfl) rfl ?_
    refine ex_sipush ok_X12_countEntries (mi 5 rfl) ?_
    refine ex_icmp_ge (tgt := 40) ok_X12_countEntries (mi 6 rfl) rfl (fun h8 => False.elim (absurd h8 (nI_ge hr (by decide)))) (fun h8 => ?_)
    refine ex_iload_n ok_X12_countEntries (mi 7 rfl) rfl ?_
    refine ex_aload_n ok_X12_countEntries (mi 8 rfl) rfl ?_
    refine ex_getRx ok_X12_countEntries (mi 9 rfl) rfl rfl (fk hs 0 rfl) (fr hs 37 rfl) (fk hs 38 rfl) (by decide) ?_
    refine ex_sipush ok_X12_countEntries (mi 10 rfl) ?_
    refine ex_iload_n ok_X12_countEntries (mi 11 rfl) rfl ?_
    refine ex_imul ok_X12_countEntries (mi 12 rfl) ?_
    refine ex_top (w := (nI 2400)) (by decide) ?_
    refine ex_iload_n ok_X12_countEntries (mi 13 rfl) rfl ?_
    refine ex_iadd ok_X12_countEntries (mi 14 rfl) ?_
    refine ex_top (w := (nI (2400 + r))) (nI_add 2400 r) ?_
    refine ex_ialdx ok_X12_countEntries (mi 15 rfl) (Or.inl (fk hs 38 rfl)) (fn hs 38 rfl) (vp_in_nI (by omega) (by decide)) (fg hg 6 rfl (by rw [nI_clamp (by omega)]; omega) (by rw [nI_clamp (by omega)]; omega)) ?_
    refine ex_if_eq (tgt := 31) ok_X12_countEntries (mi 16 rfl) rfl (fun _ => ?_) (fun hn => absurd (by decide) hn)
    refine ex_iconst ok_X12_countEntries (mi 19 rfl) ?_
    refine ex_iadd ok_X12_countEntries (mi 20 rfl) ?_
    refine ex_top (w := (nI 0)) (by decide) ?_
    refine ex_istore_n ok_X12_countEntries (mi 21 rfl) ?_
    refine ex_iinc ok_X12_countEntries (mi 22 rfl) rfl ?_
    refine ex_goto (tgt := 4) ok_X12_countEntries (mi 23 rfl) rfl ?_
    exact ex_ls (ls' := [(0, .ref x), (1, .int (nI 8)), (2, .int (nI 0)), (3, .int (nI (r + 1)))]) ⟨rfl, rfl, rfl, by rw [nI_succ]; rfl, trivial⟩ (ih (r + 1) (by omega))
theorem m_cent8 {G : GE} (hst : (ge_l G).stackTraces = false) {x : Nat} {h : GT} (hs : sh T12 h x) (hg : tG RM h x) : ex_M G 1 0 0 my_X12_countEntries [.ref x, .int (nI 8)] h (rv (some (.int (nI 0))) h) := by
  refine ex_M_of ok_X12_countEntries cw_X12_countEntries rfl hst (Nat.le_of_ble_eq_true rfl) ?_
  refine ex_iconst ok_X12_countEntries (mi 0 rfl) ?_
  refine ex_istore_n ok_X12_countEntries (mi 1 rfl) ?_
  refine ex_iconst ok_X12_countEntries (mi 2 rfl) ?_
  refine ex_istore_n ok_X12_countEntries (mi 3 rfl) ?_
  exact ex_ls (ls' := [(0, .ref x), (1, .int (nI 8)), (2, .int (nI 0)), (3, .int (nI 0))]) ⟨rfl, rfl, rfl, rfl, trivial⟩ (lp_cent8 hs hg ⟨rfl, rfl⟩ 300 0 rfl)
theorem ap_tG0 {x : Nat} {ws : List WT} {g : GT} {A : List (Nat × Nat × Nat × Int32)} (hw : ws.all (fun w => w.1.beq 0) = true) (h : tG A g x) : tG A (ap x ws g) x := by
  intro q hq j h1 h2
  refine apA0 ?_ (h q hq j h1 h2)
  unfold rA
  rw [List.find?_eq_none.mpr]
  · rfl
  · intro w hm
    have k := List.all_eq_true.mp hw w hm
    rw [Nat.beq_eq] at k
    simp [k]
theorem lp_vt0 {G : GE} {x : Nat} {h : GT} {w : Int32} {Q : RT → GT → Prop} (hs : sh T12 h x) (hg : tG RM h x) (hq : ex_W G 2 0 0 M_X12_voter 77 [(0, .ref x), (1, .int (nI 0)), (2, .int w), (3, .int (nI 0)), (4, .int (nI 16))] [] h Q) : ∀ n r : Nat, r + n = 16 → ex_W G 2 0 0 M_X12_voter 40 [(0, .ref x), (1, .int (nI 0)), (2, .int w), (3, .int (nI 0)), (4, .int (nI r))] [] h Q := by
  intro n
  induction n with
  | zero =>
    intro r hr
    obtain rfl : r = 16 := by omega
    refine ex_iload ok_X12_voter (mi 24 rfl) rfl ?_
    refine ex_bipush ok_X12_voter (mi 25 rfl) ?_
    refine ex_icmp_ge (tgt := 77) ok_X12_voter (mi 26 rfl) rfl (fun _ => ?_) (fun hn => absurd (by decide) hn)
    exact hq
  | succ n ih =>
    intro r hrn
    have hr : r < 16 := by omega
    refine ex_iload ok_X12_voter (mi 24 rfl) rfl ?_
    refine ex_bipush ok_X12_voter (mi 25 rfl) ?_
    refine ex_icmp_ge (tgt := 77) ok_X12_voter (mi 26 rfl) rfl (fun h44 => False.elim (absurd h44 (nI_ge hr (by decide)))) (fun h44 => ?_)
    refine ex_iload_n ok_X12_voter (mi 27 rfl) rfl ?_
    refine ex_aload_n ok_X12_voter (mi 28 rfl) rfl ?_
    refine ex_getRx ok_X12_voter (mi 29 rfl) rfl rfl (fk hs 0 rfl) (fr hs 44 rfl) (fk hs 45 rfl) (by decide) ?_
    refine ex_bipush ok_X12_voter (mi 30 rfl) ?_
    refine ex_iload_n ok_X12_voter (mi 31 rfl) rfl ?_
    refine ex_imul ok_X12_voter (mi 32 rfl) ?_
    refine ex_top (w := (nI 0)) (by decide) ?_
    refine ex_iload ok_X12_voter (mi 33 rfl) rfl ?_
    refine ex_iadd ok_X12_voter (mi 34 rfl) ?_
    refine ex_top (w := (nI (0 + r))) (nI_add 0 r) ?_
    refine ex_ialdx ok_X12_voter (mi 35 rfl) (Or.inl (fk hs 45 rfl)) (fn hs 45 rfl) (vp_in_nI (by omega) (by decide)) (fg hg 5 rfl (by rw [nI_clamp (by omega)]; omega) (by rw [nI_clamp (by omega)]; omega)) ?_
    refine ex_iconst ok_X12_voter (mi 36 rfl) ?_
    refine ex_icmp_eq (tgt := 68) ok_X12_voter (mi 37 rfl) rfl (fun _ => ?_) (fun hn => absurd (by decide) hn)
    refine ex_iconst ok_X12_voter (mi 40 rfl) ?_
    refine ex_iadd ok_X12_voter (mi 41 rfl) ?_
    refine ex_top (w := (nI 0)) (by decide) ?_
    refine ex_istore_n ok_X12_voter (mi 42 rfl) ?_
    refine ex_iinc ok_X12_voter (mi 43 rfl) rfl ?_
    refine ex_goto (tgt := 40) ok_X12_voter (mi 44 rfl) rfl ?_
    exact ex_ls (ls' := [(0, .ref x), (1, .int (nI 0)), (2, .int w), (3, .int (nI 0)), (4, .int (nI (r + 1)))]) ⟨rfl, rfl, rfl, rfl, by rw [nI_succ]; rfl, trivial⟩ (ih (r + 1) (by omega))
theorem lp_vt1 {G : GE} {x : Nat} {h : GT} {w : Int32} {Q : RT → GT → Prop} (hs : sh T12 h x) (hg : tG RM h x) (hq : ex_W G 2 0 0 M_X12_voter 77 [(0, .ref x), (1, .int (nI 1)), (2, .int w), (3, .int (nI 0)), (4, .int (nI 16))] [] h Q) : ∀ n r : Nat, r + n = 16 → ex_W G 2 0 0 M_X12_voter 40 [(0, .ref x), (1, .int (nI 1)), (2, .int w), (3, .int (nI 0)), (4, .int (nI r))] [] h Q := by
  intro n
  induction n with
  | zero =>
    intro r hr
    obtain rfl : r = 16 := by omega
    refine ex_iload ok_X12_voter (mi 24 rfl) rfl ?_
    refine ex_bipush ok_X12_voter (mi 25 rfl) ?_
    refine ex_icmp_ge (tgt := 77) ok_X12_voter (mi 26 rfl) rfl (fun _ => ?_) (fun hn => absurd (by decide) hn)
    exact hq
  | succ n ih =>
    intro r hrn
    have hr : r < 16 := by omega
    refine ex_iload ok_X12_voter (mi 24 rfl) rfl ?_
    refine ex_bipush ok_X12_voter (mi 25 rfl) ?_
    refine ex_icmp_ge (tgt := 77) ok_X12_voter (mi 26 rfl) rfl (fun h44 => False.elim (absurd h44 (nI_ge hr (by decide)))) (fun h44 => ?_)
    refine ex_iload_n ok_X12_voter (mi 27 rfl) rfl ?_
    refine ex_aload_n ok_X12_voter (mi 28 rfl) rfl ?_
    refine ex_getRx ok_X12_voter (mi 29 rfl) rfl rfl (fk hs 0 rfl) (fr hs 44 rfl) (fk hs 45 rfl) (by decide) ?_
    refine ex_bipush ok_X12_voter (mi 30 rfl) ?_
    refine ex_iload_n ok_X12_voter (mi 31 rfl) rfl ?_
    refine ex_imul ok_X12_voter (mi 32 rfl) ?_
    refine ex_top (w := (nI 16)) (by decide) ?_
    refine ex_iload ok_X12_voter (mi 33 rfl) rfl ?_
    refine ex_iadd ok_X12_voter (mi 34 rfl) ?_
    refine ex_top (w := (nI (16 + r))) (nI_add 16 r) ?_
    refine ex_ialdx ok_X12_voter (mi 35 rfl) (Or.inl (fk hs 45 rfl)) (fn hs 45 rfl) (vp_in_nI (by omega) (by decide)) (fg hg 5 rfl (by rw [nI_clamp (by omega)]; omega) (by rw [nI_clamp (by omega)]; omega)) ?_
    refine ex_iconst ok_X12_voter (mi 36 rfl) ?_
    refine ex_icmp_eq (tgt := 68) ok_X12_voter (mi 37 rfl) rfl (fun _ => ?_) (fun hn => absurd (by decide) hn)
    refine ex_iconst ok_X12_voter (mi 40 rfl) ?_
    refine ex_iadd ok_X12_voter (mi 41 rfl) ?_
    refine ex_top (w := (nI 0)) (by decide) ?_
    refine ex_istore_n ok_X12_voter (mi 42 rfl) ?_
    refine ex_iinc ok_X12_voter (mi 43 rfl) rfl ?_
    refine ex_goto (tgt := 40) ok_X12_voter (mi 44 rfl) rfl ?_
    exact ex_ls (ls' := [(0, .ref x), (1, .int (nI 1)), (2, .int w), (3, .int (nI 0)), (4, .int (nI (r + 1)))]) ⟨rfl, rfl, rfl, rfl, by rw [nI_succ]; rfl, trivial⟩ (ih (r + 1) (by omega))
theorem lp_vt2 {G : GE} {x : Nat} {h : GT} {w : Int32} {Q : RT → GT → Prop} (hs : sh T12 h x) (hg : tG RM h x) (hq : ex_W G 2 0 0 M_X12_voter 77 [(0, .ref x), (1, .int (nI 2)), (2, .int w), (3, .int (nI 0)), (4, .int (nI 16))] [] h Q) : ∀ n r : Nat, r + n = 16 → ex_W G 2 0 0 M_X12_voter 40 [(0, .ref x), (1, .int (nI 2)), (2, .int w), (3, .int (nI 0)), (4, .int (nI r))] [] h Q := by
  intro n
  induction n with
  | zero =>
    intro r hr
    obtain rfl : r = 16 := by omega
    refine ex_iload ok_X12_voter (mi 24 rfl) rfl ?_
    refine ex_bipush ok_X12_voter (mi 25 rfl) ?_
    refine ex_icmp_ge (tgt := 77) ok_X12_voter (mi 26 rfl) rfl (fun _ => ?_) (fun hn => absurd (by decide) hn)
    exact hq
  | succ n ih =>
    intro r hrn
    have hr : r < 16 := by omega
    refine ex_iload ok_X12_voter (mi 24 rfl) rfl ?_
    refine ex_bipush ok_X12_voter (mi 25 rfl) ?_
    refine ex_icmp_ge (tgt := 77) ok_X12_voter (mi 26 rfl) rfl (fun h44 => False.elim (absurd h44 (nI_ge hr (by decide)))) (fun h44 => ?_)
    refine ex_iload_n ok_X12_voter (mi 27 rfl) rfl ?_
    refine ex_aload_n ok_X12_voter (mi 28 rfl) rfl ?_
    refine ex_getRx ok_X12_voter (mi 29 rfl) rfl rfl (fk hs 0 rfl) (fr hs 44 rfl) (fk hs 45 rfl) (by decide) ?_
    refine ex_bipush ok_X12_voter (mi 30 rfl) ?_
    refine ex_iload_n ok_X12_voter (mi 31 rfl) rfl ?_
    refine ex_imul ok_X12_voter (mi 32 rfl) ?_
    refine ex_top (w := (nI 32)) (by decide) ?_
    refine ex_iload ok_X12_voter (mi 33 rfl) rfl ?_
    refine ex_iadd ok_X12_voter (mi 34 rfl) ?_
    refine ex_top (w := (nI (32 + r))) (nI_add 32 r) ?_
    refine ex_ialdx ok_X12_voter (mi 35 rfl) (Or.inl (fk hs 45 rfl)) (fn hs 45 rfl) (vp_in_nI (by omega) (by decide)) (fg hg 5 rfl (by rw [nI_clamp (by omega)]; omega) (by rw [nI_clamp (by omega)]; omega)) ?_
    refine ex_iconst ok_X12_voter (mi 36 rfl) ?_
    refine ex_icmp_eq (tgt := 68) ok_X12_voter (mi 37 rfl) rfl (fun _ => ?_) (fun hn => absurd (by decide) hn)
    refine ex_iconst ok_X12_voter (mi 40 rfl) ?_
    refine ex_iadd ok_X12_voter (mi 41 rfl) ?_
    refine ex_top (w := (nI 0)) (by decide) ?_
    refine ex_istore_n ok_X12_voter (mi 42 rfl) ?_
    refine ex_iinc ok_X12_voter (mi 43 rfl) rfl ?_
    refine ex_goto (tgt := 40) ok_X12_voter (mi 44 rfl) rfl ?_
    exact ex_ls (ls' := [(0, .ref x), (1, .int (nI 2)), (2, .int w), (3, .int (nI 0)), (4, .int (nI (r + 1)))]) ⟨rfl, rfl, rfl, rfl, by rw [nI_succ]; rfl, trivial⟩ (ih (r + 1) (by omega))
theorem lp_vt3 {G : GE} {x : Nat} {h : GT} {w : Int32} {Q : RT → GT → Prop} (hs : sh T12 h x) (hg : tG RM h x) (hq : ex_W G 2 0 0 M_X12_voter 77 [(0, .ref x), (1, .int (nI 3)), (2, .int w), (3, .int (nI 0)), (4, .int (nI 16))] [] h Q) : ∀ n r : Nat, r + n = 16 → ex_W G 2 0 0 M_X12_voter 40 [(0, .ref x), (1, .int (nI 3)), (2, .int w), (3, .int (nI 0)), (4, .int (nI r))] [] h Q := by
  intro n
  induction n with
  | zero =>
    intro r hr
    obtain rfl : r = 16 := by omega
    refine ex_iload ok_X12_voter (mi 24 rfl) rfl ?_
    refine ex_bipush ok_X12_voter (mi 25 rfl) ?_
    refine ex_icmp_ge (tgt := 77) ok_X12_voter (mi 26 rfl) rfl (fun _ => ?_) (fun hn => absurd (by decide) hn)
    exact hq
  | succ n ih =>
    intro r hrn
    have hr : r < 16 := by omega
    refine ex_iload ok_X12_voter (mi 24 rfl) rfl ?_
    refine ex_bipush ok_X12_voter (mi 25 rfl) ?_
    refine ex_icmp_ge (tgt := 77) ok_X12_voter (mi 26 rfl) rfl (fun h44 => False.elim (absurd h44 (nI_ge hr (by decide)))) (fun h44 => ?_)
    refine ex_iload_n ok_X12_voter (mi 27 rfl) rfl ?_
    refine ex_aload_n ok_X12_voter (mi 28 rfl) rfl ?_
    refine ex_getRx ok_X12_voter (mi 29 rfl) rfl rfl (fk hs 0 rfl) (fr hs 44 rfl) (fk hs 45 rfl) (by decide) ?_
    refine ex_bipush ok_X12_voter (mi 30 rfl) ?_
    refine ex_iload_n ok_X12_voter (mi 31 rfl) rfl ?_
    refine ex_imul ok_X12_voter (mi 32 rfl) ?_
    refine ex_top (w := (nI 48)) (by decide) ?_
    refine ex_iload ok_X12_voter (mi 33 rfl) rfl ?_
    refine ex_iadd ok_X12_voter (mi 34 rfl) ?_
    refine ex_top (w := (nI (48 + r))) (nI_add 48 r) ?_
    refine ex_ialdx ok_X12_voter (mi 35 rfl) (Or.inl (fk hs 45 rfl)) (fn hs 45 rfl) (vp_in_nI (by omega) (by decide)) (fg hg 5 rfl (by rw [nI_clamp (by omega)]; omega) (by rw [nI_clamp (by omega)]; omega)) ?_
    refine ex_iconst ok_X12_voter (mi 36 rfl) ?_
    refine ex_icmp_eq (tgt := 68) ok_X12_voter (mi 37 rfl) rfl (fun _ => ?_) (fun hn => absurd (by decide) hn)
    refine ex_iconst ok_X12_voter (mi 40 rfl) ?_
    refine ex_iadd ok_X12_voter (mi 41 rfl) ?_
    refine ex_top (w := (nI 0)) (by decide) ?_
    refine ex_istore_n ok_X12_voter (mi 42 rfl) ?_
    refine ex_iinc ok_X12_voter (mi 43 rfl) rfl ?_
    refine ex_goto (tgt := 40) ok_X12_voter (mi 44 rfl) rfl ?_
    exact ex_ls (ls' := [(0, .ref x), (1, .int (nI 3)), (2, .int w), (3, .int (nI 0)), (4, .int (nI (r + 1)))]) ⟨rfl, rfl, rfl, rfl, by rw [nI_succ]; rfl, trivial⟩ (ih (r + 1) (by omega))
theorem lp_vt4 {G : GE} {x : Nat} {h : GT} {w : Int32} {Q : RT → GT → Prop} (hs : sh T12 h x) (hg : tG RM h x) (hq : ex_W G 2 0 0 M_X12_voter 77 [(0, .ref x), (1, .int (nI 4)), (2, .int w), (3, .int (nI 0)), (4, .int (nI 16))] [] h Q) : ∀ n r : Nat, r + n = 16 → ex_W G 2 0 0 M_X12_voter 40 [(0, .ref x), (1, .int (nI 4)), (2, .int w), (3, .int (nI 0)), (4, .int (nI r))] [] h Q := by
  intro n
  induction n with
  | zero =>
    intro r hr
    obtain rfl : r = 16 := by omega
    refine ex_iload ok_X12_voter (mi 24 rfl) rfl ?_
    refine ex_bipush ok_X12_voter (mi 25 rfl) ?_
    refine ex_icmp_ge (tgt := 77) ok_X12_voter (mi 26 rfl) rfl (fun _ => ?_) (fun hn => absurd (by decide) hn)
    exact hq
  | succ n ih =>
    intro r hrn
    have hr : r < 16 := by omega
    refine ex_iload ok_X12_voter (mi 24 rfl) rfl ?_
    refine ex_bipush ok_X12_voter (mi 25 rfl) ?_
    refine ex_icmp_ge (tgt := 77) ok_X12_voter (mi 26 rfl) rfl (fun h44 => False.elim (absurd h44 (nI_ge hr (by decide)))) (fun h44 => ?_)
    refine ex_iload_n ok_X12_voter (mi 27 rfl) rfl ?_
    refine ex_aload_n ok_X12_voter (mi 28 rfl) rfl ?_
    refine ex_getRx ok_X12_voter (mi 29 rfl) rfl rfl (fk hs 0 rfl) (fr hs 44 rfl) (fk hs 45 rfl) (by decide) ?_
    refine ex_bipush ok_X12_voter (mi 30 rfl) ?_
    refine ex_iload_n ok_X12_voter (mi 31 rfl) rfl ?_
    refine ex_imul ok_X12_voter (mi 32 rfl) ?_
    refine ex_top (w := (nI 64)) (by decide) ?_
    refine ex_iload ok_X12_voter (mi 33 rfl) rfl ?_
    refine ex_iadd ok_X12_voter (mi 34 rfl) ?_
    refine ex_top (w := (nI (64 + r))) (nI_add 64 r) ?_
    refine ex_ialdx ok_X12_voter (mi 35 rfl) (Or.inl (fk hs 45 rfl)) (fn hs 45 rfl) (vp_in_nI (by omega) (by decide)) (fg hg 5 rfl (by rw [nI_clamp (by omega)]; omega) (by rw [nI_clamp (by omega)]; omega)) ?_
    refine ex_iconst ok_X12_voter (mi 36 rfl) ?_
    refine ex_icmp_eq (tgt := 68) ok_X12_voter (mi 37 rfl) rfl (fun _ => ?_) (fun hn => absurd (by decide) hn)
    refine ex_iconst ok_X12_voter (mi 40 rfl) ?_
    refine ex_iadd ok_X12_voter (mi 41 rfl) ?_
    refine ex_top (w := (nI 0)) (by decide) ?_
    refine ex_istore_n ok_X12_voter (mi 42 rfl) ?_
    refine ex_iinc ok_X12_voter (mi 43 rfl) rfl ?_
    refine ex_goto (tgt := 40) ok_X12_voter (mi 44 rfl) rfl ?_
    exact ex_ls (ls' := [(0, .ref x), (1, .int (nI 4)), (2, .int w), (3, .int (nI 0)), (4, .int (nI (r + 1)))]) ⟨rfl, rfl, rfl, rfl, by rw [nI_succ]; rfl, trivial⟩ (ih (r + 1) (by omega))
theorem lp_vt5 {G : GE} {x : Nat} {h : GT} {w : Int32} {Q : RT → GT → Prop} (hs : sh T12 h x) (hg : tG RM h x) (hq : ex_W G 2 0 0 M_X12_voter 77 [(0, .ref x), (1, .int (nI 5)), (2, .int w), (3, .int (nI 0)), (4, .int (nI 16))] [] h Q) : ∀ n r : Nat, r + n = 16 → ex_W G 2 0 0 M_X12_voter 40 [(0, .ref x), (1, .int (nI 5)), (2, .int w), (3, .int (nI 0)), (4, .int (nI r))] [] h Q := by
  intro n
  induction n with
  | zero =>
    intro r hr
    obtain rfl : r = 16 := by omega
    refine ex_iload ok_X12_voter (mi 24 rfl) rfl ?_
    refine ex_bipush ok_X12_voter (mi 25 rfl) ?_
    refine ex_icmp_ge (tgt := 77) ok_X12_voter (mi 26 rfl) rfl (fun _ => ?_) (fun hn => absurd (by decide) hn)
    exact hq
  | succ n ih =>
    intro r hrn
    have hr : r < 16 := by omega
    refine ex_iload ok_X12_voter (mi 24 rfl) rfl ?_
    refine ex_bipush ok_X12_voter (mi 25 rfl) ?_
    refine ex_icmp_ge (tgt := 77) ok_X12_voter (mi 26 rfl) rfl (fun h44 => False.elim (absurd h44 (nI_ge hr (by decide)))) (fun h44 => ?_)
    refine ex_iload_n ok_X12_voter (mi 27 rfl) rfl ?_
    refine ex_aload_n ok_X12_voter (mi 28 rfl) rfl ?_
    refine ex_getRx ok_X12_voter (mi 29 rfl) rfl rfl (fk hs 0 rfl) (fr hs 44 rfl) (fk hs 45 rfl) (by decide) ?_
    refine ex_bipush ok_X12_voter (mi 30 rfl) ?_
    refine ex_iload_n ok_X12_voter (mi 31 rfl) rfl ?_
    refine ex_imul ok_X12_voter (mi 32 rfl) ?_
    refine ex_top (w := (nI 80)) (by decide) ?_
    refine ex_iload ok_X12_voter (mi 33 rfl) rfl ?_
    refine ex_iadd ok_X12_voter (mi 34 rfl) ?_
    refine ex_top (w := (nI (80 + r))) (nI_add 80 r) ?_
    refine ex_ialdx ok_X12_voter (mi 35 rfl) (Or.inl (fk hs 45 rfl)) (fn hs 45 rfl) (vp_in_nI (by omega) (by decide)) (fg hg 5 rfl (by rw [nI_clamp (by omega)]; omega) (by rw [nI_clamp (by omega)]; omega)) ?_
    refine ex_iconst ok_X12_voter (mi 36 rfl) ?_
    refine ex_icmp_eq (tgt := 68) ok_X12_voter (mi 37 rfl) rfl (fun _ => ?_) (fun hn => absurd (by decide) hn)
    refine ex_iconst ok_X12_voter (mi 40 rfl) ?_
    refine ex_iadd ok_X12_voter (mi 41 rfl) ?_
    refine ex_top (w := (nI 0)) (by decide) ?_
    refine ex_istore_n ok_X12_voter (mi 42 rfl) ?_
    refine ex_iinc ok_X12_voter (mi 43 rfl) rfl ?_
    refine ex_goto (tgt := 40) ok_X12_voter (mi 44 rfl) rfl ?_
    exact ex_ls (ls' := [(0, .ref x), (1, .int (nI 5)), (2, .int w), (3, .int (nI 0)), (4, .int (nI (r + 1)))]) ⟨rfl, rfl, rfl, rfl, by rw [nI_succ]; rfl, trivial⟩ (ih (r + 1) (by omega))
theorem lp_vt6 {G : GE} {x : Nat} {h : GT} {w : Int32} {Q : RT → GT → Prop} (hs : sh T12 h x) (hg : tG RM h x) (hq : ex_W G 2 0 0 M_X12_voter 77 [(0, .ref x), (1, .int (nI 6)), (2, .int w), (3, .int (nI 0)), (4, .int (nI 16))] [] h Q) : ∀ n r : Nat, r + n = 16 → ex_W G 2 0 0 M_X12_voter 40 [(0, .ref x), (1, .int (nI 6)), (2, .int w), (3, .int (nI 0)), (4, .int (nI r))] [] h Q := by
  intro n
  induction n with
  | zero =>
    intro r hr
    obtain rfl : r = 16 := by omega
    refine ex_iload ok_X12_voter (mi 24 rfl) rfl ?_
    refine ex_bipush ok_X12_voter (mi 25 rfl) ?_
    refine ex_icmp_ge (tgt := 77) ok_X12_voter (mi 26 rfl) rfl (fun _ => ?_) (fun hn => absurd (by decide) hn)
    exact hq
  | succ n ih =>
    intro r hrn
    have hr : r < 16 := by omega
    refine ex_iload ok_X12_voter (mi 24 rfl) rfl ?_
    refine ex_bipush ok_X12_voter (mi 25 rfl) ?_
    refine ex_icmp_ge (tgt := 77) ok_X12_voter (mi 26 rfl) rfl (fun h44 => False.elim (absurd h44 (nI_ge hr (by decide)))) (fun h44 => ?_)
    refine ex_iload_n ok_X12_voter (mi 27 rfl) rfl ?_
    refine ex_aload_n ok_X12_voter (mi 28 rfl) rfl ?_
    refine ex_getRx ok_X12_voter (mi 29 rfl) rfl rfl (fk hs 0 rfl) (fr hs 44 rfl) (fk hs 45 rfl) (by decide) ?_
    refine ex_bipush ok_X12_voter (mi 30 rfl) ?_
    refine ex_iload_n ok_X12_voter (mi 31 rfl) rfl ?_
    refine ex_imul ok_X12_voter (mi 32 rfl) ?_
    refine ex_top (w := (nI 96)) (by decide) ?_
    refine ex_iload ok_X12_voter (mi 33 rfl) rfl ?_
    refine ex_iadd ok_X12_voter (mi 34 rfl) ?_
    refine ex_top (w := (nI (96 + r))) (nI_add 96 r) ?_
    refine ex_ialdx ok_X12_voter (mi 35 rfl) (Or.inl (fk hs 45 rfl)) (fn hs 45 rfl) (vp_in_nI (by omega) (by decide)) (fg hg 5 rfl (by rw [nI_clamp (by omega)]; omega) (by rw [nI_clamp (by omega)]; omega)) ?_
    refine ex_iconst ok_X12_voter (mi 36 rfl) ?_
    refine ex_icmp_eq (tgt := 68) ok_X12_voter (mi 37 rfl) rfl (fun _ => ?_) (fun hn => absurd (by decide) hn)
    refine ex_iconst ok_X12_voter (mi 40 rfl) ?_
    refine ex_iadd ok_X12_voter (mi 41 rfl) ?_
    refine ex_top (w := (nI 0)) (by decide) ?_
    refine ex_istore_n ok_X12_voter (mi 42 rfl) ?_
    refine ex_iinc ok_X12_voter (mi 43 rfl) rfl ?_
    refine ex_goto (tgt := 40) ok_X12_voter (mi 44 rfl) rfl ?_
    exact ex_ls (ls' := [(0, .ref x), (1, .int (nI 6)), (2, .int w), (3, .int (nI 0)), (4, .int (nI (r + 1)))]) ⟨rfl, rfl, rfl, rfl, by rw [nI_succ]; rfl, trivial⟩ (ih (r + 1) (by omega))
theorem lp_vt7 {G : GE} {x : Nat} {h : GT} {w : Int32} {Q : RT → GT → Prop} (hs : sh T12 h x) (hg : tG RM h x) (hq : ex_W G 2 0 0 M_X12_voter 77 [(0, .ref x), (1, .int (nI 7)), (2, .int w), (3, .int (nI 0)), (4, .int (nI 16))] [] h Q) : ∀ n r : Nat, r + n = 16 → ex_W G 2 0 0 M_X12_voter 40 [(0, .ref x), (1, .int (nI 7)), (2, .int w), (3, .int (nI 0)), (4, .int (nI r))] [] h Q := by
  intro n
  induction n with
  | zero =>
    intro r hr
    obtain rfl : r = 16 := by omega
    refine ex_iload ok_X12_voter (mi 24 rfl) rfl ?_
    refine ex_bipush ok_X12_voter (mi 25 rfl) ?_
    refine ex_icmp_ge (tgt := 77) ok_X12_voter (mi 26 rfl) rfl (fun _ => ?_) (fun hn => absurd (by decide) hn)
    exact hq
  | succ n ih =>
    intro r hrn
    have hr : r < 16 := by omega
    refine ex_iload ok_X12_voter (mi 24 rfl) rfl ?_
    refine ex_bipush ok_X12_voter (mi 25 rfl) ?_
    refine ex_icmp_ge (tgt := 77) ok_X12_voter (mi 26 rfl) rfl (fun h44 => False.elim (absurd h44 (nI_ge hr (by decide)))) (fun h44 => ?_)
    refine ex_iload_n ok_X12_voter (mi 27 rfl) rfl ?_
    refine ex_aload_n ok_X12_voter (mi 28 rfl) rfl ?_
    refine ex_getRx ok_X12_voter (mi 29 rfl) rfl rfl (fk hs 0 rfl) (fr hs 44 rfl) (fk hs 45 rfl) (by decide) ?_
    refine ex_bipush ok_X12_voter (mi 30 rfl) ?_
    refine ex_iload_n ok_X12_voter (mi 31 rfl) rfl ?_
    refine ex_imul ok_X12_voter (mi 32 rfl) ?_
    refine ex_top (w := (nI 112)) (by decide) ?_
    refine ex_iload ok_X12_voter (mi 33 rfl) rfl ?_
    refine ex_iadd ok_X12_voter (mi 34 rfl) ?_
    refine ex_top (w := (nI (112 + r))) (nI_add 112 r) ?_
    refine ex_ialdx ok_X12_voter (mi 35 rfl) (Or.inl (fk hs 45 rfl)) (fn hs 45 rfl) (vp_in_nI (by omega) (by decide)) (fg hg 5 rfl (by rw [nI_clamp (by omega)]; omega) (by rw [nI_clamp (by omega)]; omega)) ?_
    refine ex_iconst ok_X12_voter (mi 36 rfl) ?_
    refine ex_icmp_eq (tgt := 68) ok_X12_voter (mi 37 rfl) rfl (fun _ => ?_) (fun hn => absurd (by decide) hn)
    refine ex_iconst ok_X12_voter (mi 40 rfl) ?_
    refine ex_iadd ok_X12_voter (mi 41 rfl) ?_
    refine ex_top (w := (nI 0)) (by decide) ?_
    refine ex_istore_n ok_X12_voter (mi 42 rfl) ?_
    refine ex_iinc ok_X12_voter (mi 43 rfl) rfl ?_
    refine ex_goto (tgt := 40) ok_X12_voter (mi 44 rfl) rfl ?_
    exact ex_ls (ls' := [(0, .ref x), (1, .int (nI 7)), (2, .int w), (3, .int (nI 0)), (4, .int (nI (r + 1)))]) ⟨rfl, rfl, rfl, rfl, by rw [nI_succ]; rfl, trivial⟩ (ih (r + 1) (by omega))
theorem lp_vt8 {G : GE} {x : Nat} {h : GT} {w : Int32} {Q : RT → GT → Prop} (hs : sh T12 h x) (hg : tG RM h x) (hq : ex_W G 2 0 0 M_X12_voter 77 [(0, .ref x), (1, .int (nI 8)), (2, .int w), (3, .int (nI 0)), (4, .int (nI 16))] [] h Q) : ∀ n r : Nat, r + n = 16 → ex_W G 2 0 0 M_X12_voter 40 [(0, .ref x), (1, .int (nI 8)), (2, .int w), (3, .int (nI 0)), (4, .int (nI r))] [] h Q := by
  intro n
  induction n with
  | zero =>
    intro r hr
    obtain rfl : r = 16 := by omega
    refine ex_iload ok_X12_voter (mi 24 rfl) rfl ?_
    refine ex_bipush ok_X12_voter (mi 25 rfl) ?_
    refine ex_icmp_ge (tgt := 77) ok_X12_voter (mi 26 rfl) rfl (fun _ => ?_) (fun hn => absurd (by decide) hn)
    exact hq
  | succ n ih =>
    intro r hrn
    have hr : r < 16 := by omega
    refine ex_iload ok_X12_voter (mi 24 rfl) rfl ?_
    refine ex_bipush ok_X12_voter (mi 25 rfl) ?_
    refine ex_icmp_ge (tgt := 77) ok_X12_voter (mi 26 rfl) rfl (fun h44 => False.elim (absurd h44 (nI_ge hr (by decide)))) (fun h44 => ?_)
    refine ex_iload_n ok_X12_voter (mi 27 rfl) rfl ?_
    refine ex_aload_n ok_X12_voter (mi 28 rfl) rfl ?_
    refine ex_getRx ok_X12_voter (mi 29 rfl) rfl rfl (fk hs 0 rfl) (fr hs 44 rfl) (fk hs 45 rfl) (by decide) ?_
    refine ex_bipush ok_X12_voter (mi 30 rfl) ?_
    refine ex_iload_n ok_X12_voter (mi 31 rfl) rfl ?_
    refine ex_imul ok_X12_voter (mi 32 rfl) ?_
    refine ex_top (w := (nI 128)) (by decide) ?_
    refine ex_iload ok_X12_voter (mi 33 rfl) rfl ?_
    refine ex_iadd ok_X12_voter (mi 34 rfl) ?_
    refine ex_top (w := (nI (128 + r))) (nI_add 128 r) ?_
    refine ex_ialdx ok_X12_voter (mi 35 rfl) (Or.inl (fk hs 45 rfl)) (fn hs 45 rfl) (vp_in_nI (by omega) (by decide)) (fg hg 5 rfl (by rw [nI_clamp (by omega)]; omega) (by rw [nI_clamp (by omega)]; omega)) ?_
    refine ex_iconst ok_X12_voter (mi 36 rfl) ?_
    refine ex_icmp_eq (tgt := 68) ok_X12_voter (mi 37 rfl) rfl (fun _ => ?_) (fun hn => absurd (by decide) hn)
    refine ex_iconst ok_X12_voter (mi 40 rfl) ?_
    refine ex_iadd ok_X12_voter (mi 41 rfl) ?_
    refine ex_top (w := (nI 0)) (by decide) ?_
    refine ex_istore_n ok_X12_voter (mi 42 rfl) ?_
    refine ex_iinc ok_X12_voter (mi 43 rfl) rfl ?_
    refine ex_goto (tgt := 40) ok_X12_voter (mi 44 rfl) rfl ?_
    exact ex_ls (ls' := [(0, .ref x), (1, .int (nI 8)), (2, .int w), (3, .int (nI 0)), (4, .int (nI (r + 1)))]) ⟨rfl, rfl, rfl, rfl, by rw [nI_succ]; rfl, trivial⟩ (ih (r + 1) (by omega))
theorem lp_vt9 {G : GE} {x : Nat} {h : GT} {w : Int32} {Q : RT → GT → Prop} (hs : sh T12 h x) (hg : tG RM h x) (hq : ex_W G 2 0 0 M_X12_voter 77 [(0, .ref x), (1, .int (nI 9)), (2, .int w), (3, .int (nI 0)), (4, .int (nI 16))] [] h Q) : ∀ n r : Nat, r + n = 16 → ex_W G 2 0 0 M_X12_voter 40 [(0, .ref x), (1, .int (nI 9)), (2, .int w), (3, .int (nI 0)), (4, .int (nI r))] [] h Q := by
  intro n
  induction n with
  | zero =>
    intro r hr
    obtain rfl : r = 16 := by omega
    refine ex_iload ok_X12_voter (mi 24 rfl) rfl ?_
    refine ex_bipush ok_X12_voter (mi 25 rfl) ?_
    refine ex_icmp_ge (tgt := 77) ok_X12_voter (mi 26 rfl) rfl (fun _ => ?_) (fun hn => absurd (by decide) hn)
    exact hq
  | succ n ih =>
    intro r hrn
    have hr : r < 16 := by omega
    refine ex_iload ok_X12_voter (mi 24 rfl) rfl ?_
    refine ex_bipush ok_X12_voter (mi 25 rfl) ?_
    refine ex_icmp_ge (tgt := 77) ok_X12_voter (mi 26 rfl) rfl (fun h44 => False.elim (absurd h44 (nI_ge hr (by decide)))) (fun h44 => ?_)
    refine ex_iload_n ok_X12_voter (mi 27 rfl) rfl ?_
    refine ex_aload_n ok_X12_voter (mi 28 rfl) rfl ?_
    refine ex_getRx ok_X12_voter (mi 29 rfl) rfl rfl (fk hs 0 rfl) (fr hs 44 rfl) (fk hs 45 rfl) (by decide) ?_
    refine ex_bipush ok_X12_voter (mi 30 rfl) ?_
    refine ex_iload_n ok_X12_voter (mi 31 rfl) rfl ?_
    refine ex_imul ok_X12_voter (mi 32 rfl) ?_
    refine ex_top (w := (nI 144)) (by decide) ?_
    refine ex_iload ok_X12_voter (mi 33 rfl) rfl ?_
    refine ex_iadd ok_X12_voter (mi 34 rfl) ?_
    refine ex_top (w := (nI (144 + r))) (nI_add 144 r) ?_
    refine ex_ialdx ok_X12_voter (mi 35 rfl) (Or.inl (fk hs 45 rfl)) (fn hs 45 rfl) (vp_in_nI (by omega) (by decide)) (fg hg 5 rfl (by rw [nI_clamp (by omega)]; omega) (by rw [nI_clamp (by omega)]; omega)) ?_
    refine ex_iconst ok_X12_voter (mi 36 rfl) ?_
    refine ex_icmp_eq (tgt := 68) ok_X12_voter (mi 37 rfl) rfl (fun _ => ?_) (fun hn => absurd (by decide) hn)
    refine ex_iconst ok_X12_voter (mi 40 rfl) ?_
    refine ex_iadd ok_X12_voter (mi 41 rfl) ?_
    refine ex_top (w := (nI 0)) (by decide) ?_
    refine ex_istore_n ok_X12_voter (mi 42 rfl) ?_
    refine ex_iinc ok_X12_voter (mi 43 rfl) rfl ?_
    refine ex_goto (tgt := 40) ok_X12_voter (mi 44 rfl) rfl ?_
    exact ex_ls (ls' := [(0, .ref x), (1, .int (nI 9)), (2, .int w), (3, .int (nI 0)), (4, .int (nI (r + 1)))]) ⟨rfl, rfl, rfl, rfl, by rw [nI_succ]; rfl, trivial⟩ (ih (r + 1) (by omega))
theorem lp_vt10 {G : GE} {x : Nat} {h : GT} {w : Int32} {Q : RT → GT → Prop} (hs : sh T12 h x) (hg : tG RM h x) (hq : ex_W G 2 0 0 M_X12_voter 77 [(0, .ref x), (1, .int (nI 10)), (2, .int w), (3, .int (nI 0)), (4, .int (nI 16))] [] h Q) : ∀ n r : Nat, r + n = 16 → ex_W G 2 0 0 M_X12_voter 40 [(0, .ref x), (1, .int (nI 10)), (2, .int w), (3, .int (nI 0)), (4, .int (nI r))] [] h Q := by
  intro n
  induction n with
  | zero =>
    intro r hr
    obtain rfl : r = 16 := by omega
    refine ex_iload ok_X12_voter (mi 24 rfl) rfl ?_
    refine ex_bipush ok_X12_voter (mi 25 rfl) ?_
    refine ex_icmp_ge (tgt := 77) ok_X12_voter (mi 26 rfl) rfl (fun _ => ?_) (fun hn => absurd (by decide) hn)
    exact hq
  | succ n ih =>
    intro r hrn
    have hr : r < 16 := by omega
    refine ex_iload ok_X12_voter (mi 24 rfl) rfl ?_
    refine ex_bipush ok_X12_voter (mi 25 rfl) ?_
    refine ex_icmp_ge (tgt := 77) ok_X12_voter (mi 26 rfl) rfl (fun h44 => False.elim (absurd h44 (nI_ge hr (by decide)))) (fun h44 => ?_)
    refine ex_iload_n ok_X12_voter (mi 27 rfl) rfl ?_
    refine ex_aload_n ok_X12_voter (mi 28 rfl) rfl ?_
    refine ex_getRx ok_X12_voter (mi 29 rfl) rfl rfl (fk hs 0 rfl) (fr hs 44 rfl) (fk hs 45 rfl) (by decide) ?_
    refine ex_bipush ok_X12_voter (mi 30 rfl) ?_
    refine ex_iload_n ok_X12_voter (mi 31 rfl) rfl ?_
    refine ex_imul ok_X12_voter (mi 32 rfl) ?_
    refine ex_top (w := (nI 160)) (by decide) ?_
    refine ex_iload ok_X12_voter (mi 33 rfl) rfl ?_
    refine ex_iadd ok_X12_voter (mi 34 rfl) ?_
    refine ex_top (w := (nI (160 + r))) (nI_add 160 r) ?_
    refine ex_ialdx ok_X12_voter (mi 35 rfl) (Or.inl (fk hs 45 rfl)) (fn hs 45 rfl) (vp_in_nI (by omega) (by decide)) (fg hg 5 rfl (by rw [nI_clamp (by omega)]; omega) (by rw [nI_clamp (by omega)]; omega)) ?_
    refine ex_iconst ok_X12_voter (mi 36 rfl) ?_
    refine ex_icmp_eq (tgt := 68) ok_X12_voter (mi 37 rfl) rfl (fun _ => ?_) (fun hn => absurd (by decide) hn)
    refine ex_iconst ok_X12_voter (mi 40 rfl) ?_
    refine ex_iadd ok_X12_voter (mi 41 rfl) ?_
    refine ex_top (w := (nI 0)) (by decide) ?_
    refine ex_istore_n ok_X12_voter (mi 42 rfl) ?_
    refine ex_iinc ok_X12_voter (mi 43 rfl) rfl ?_
    refine ex_goto (tgt := 40) ok_X12_voter (mi 44 rfl) rfl ?_
    exact ex_ls (ls' := [(0, .ref x), (1, .int (nI 10)), (2, .int w), (3, .int (nI 0)), (4, .int (nI (r + 1)))]) ⟨rfl, rfl, rfl, rfl, by rw [nI_succ]; rfl, trivial⟩ (ih (r + 1) (by omega))
theorem lp_vt11 {G : GE} {x : Nat} {h : GT} {w : Int32} {Q : RT → GT → Prop} (hs : sh T12 h x) (hg : tG RM h x) (hq : ex_W G 2 0 0 M_X12_voter 77 [(0, .ref x), (1, .int (nI 11)), (2, .int w), (3, .int (nI 0)), (4, .int (nI 16))] [] h Q) : ∀ n r : Nat, r + n = 16 → ex_W G 2 0 0 M_X12_voter 40 [(0, .ref x), (1, .int (nI 11)), (2, .int w), (3, .int (nI 0)), (4, .int (nI r))] [] h Q := by
  intro n
  induction n with
  | zero =>
    intro r hr
    obtain rfl : r = 16 := by omega
    refine ex_iload ok_X12_voter (mi 24 rfl) rfl ?_
    refine ex_bipush ok_X12_voter (mi 25 rfl) ?_
    refine ex_icmp_ge (tgt := 77) ok_X12_voter (mi 26 rfl) rfl (fun _ => ?_) (fun hn => absurd (by decide) hn)
    exact hq
  | succ n ih =>
    intro r hrn
    have hr : r < 16 := by omega
    refine ex_iload ok_X12_voter (mi 24 rfl) rfl ?_
    refine ex_bipush ok_X12_voter (mi 25 rfl) ?_
    refine ex_icmp_ge (tgt := 77) ok_X12_voter (mi 26 rfl) rfl (fun h44 => False.elim (absurd h44 (nI_ge hr (by decide)))) (fun h44 => ?_)
    refine ex_iload_n ok_X12_voter (mi 27 rfl) rfl ?_
    refine ex_aload_n ok_X12_voter (mi 28 rfl) rfl ?_
    refine ex_getRx ok_X12_voter (mi 29 rfl) rfl rfl (fk hs 0 rfl) (fr hs 44 rfl) (fk hs 45 rfl) (by decide) ?_
    refine ex_bipush ok_X12_voter (mi 30 rfl) ?_
    refine ex_iload_n ok_X12_voter (mi 31 rfl) rfl ?_
    refine ex_imul ok_X12_voter (mi 32 rfl) ?_
    refine ex_top (w := (nI 176)) (by decide) ?_
    refine ex_iload ok_X12_voter (mi 33 rfl) rfl ?_
    refine ex_iadd ok_X12_voter (mi 34 rfl) ?_
    refine ex_top (w := (nI (176 + r))) (nI_add 176 r) ?_
    refine ex_ialdx ok_X12_voter (mi 35 rfl) (Or.inl (fk hs 45 rfl)) (fn hs 45 rfl) (vp_in_nI (by omega) (by decide)) (fg hg 5 rfl (by rw [nI_clamp (by omega)]; omega) (by rw [nI_clamp (by omega)]; omega)) ?_
    refine ex_iconst ok_X12_voter (mi 36 rfl) ?_
    refine ex_icmp_eq (tgt := 68) ok_X12_voter (mi 37 rfl) rfl (fun _ => ?_) (fun hn => absurd (by decide) hn)
    refine ex_iconst ok_X12_voter (mi 40 rfl) ?_
    refine ex_iadd ok_X12_voter (mi 41 rfl) ?_
    refine ex_top (w := (nI 0)) (by decide) ?_
    refine ex_istore_n ok_X12_voter (mi 42 rfl) ?_
    refine ex_iinc ok_X12_voter (mi 43 rfl) rfl ?_
    refine ex_goto (tgt := 40) ok_X12_voter (mi 44 rfl) rfl ?_
    exact ex_ls (ls' := [(0, .ref x), (1, .int (nI 11)), (2, .int w), (3, .int (nI 0)), (4, .int (nI (r + 1)))]) ⟨rfl, rfl, rfl, rfl, by rw [nI_succ]; rfl, trivial⟩ (ih (r + 1) (by omega))
theorem m_ref000 {G : GE} (hst : (ge_l G).stackTraces = false) {x : Nat} {ws : List WT} {h : GT} (hs : sh T12 h x) : ex_M G 1 0 0 my_X12_refuses [.ref x, .int (nI 0), .int (nI 0), .int (nI 0)] (ap x ws h) (rv (some (.int (nI 1))) (ap x ((0, 0, 1200, 0, (nI 1)) :: ws) h)) := by
  refine ex_M_of ok_X12_refuses cw_X12_refuses rfl hst (Nat.le_of_ble_eq_true rfl) ?_
  refine ex_aload_n ok_X12_refuses (mi 0 rfl) rfl ?_
  refine ex_iload_n ok_X12_refuses (mi 1 rfl) rfl ?_
  refine ex_if_ne (tgt := 9) ok_X12_refuses (mi 2 rfl) rfl (fun hn => absurd (by decide) hn) (fun _ => ?_)
  refine ex_iconst ok_X12_refuses (mi 3 rfl) ?_
  refine ex_goto (tgt := 26) ok_X12_refuses (mi 4 rfl) rfl ?_
  refine ex_putIa (a := 0) (v := (nI 1)) ok_X12_refuses (mi 14 rfl) rfl rfl (fk hs 0 rfl) (by decide) ?_
  refine ex_aload_n ok_X12_refuses (mi 15 rfl) rfl ?_
  refine ex_getIx ok_X12_refuses (mi 16 rfl) rfl rfl (kq apq (fk hs 0 rfl)) (apI (a := 0) rfl) ?_
  refine ex_if_le (tgt := 40) ok_X12_refuses (mi 17 rfl) rfl (fun hn => absurd hn (by decide)) (fun _ => ?_)
  refine ex_iconst ok_X12_refuses (mi 18 rfl) ?_
  refine ex_goto (tgt := 41) ok_X12_refuses (mi 19 rfl) rfl ?_
  refine ex_zret ok_X12_refuses (mi 21 rfl) rfl (by decide) ?_
  exact ⟨inlI (by decide), rfl⟩
theorem m_ref001 {G : GE} (hst : (ge_l G).stackTraces = false) {x : Nat} {ws : List WT} {h : GT} (hs : sh T12 h x) : ex_M G 1 0 0 my_X12_refuses [.ref x, .int (nI 0), .int (nI 0), .int (nI 1)] (ap x ws h) (rv (some (.int (nI 1))) (ap x ((0, 0, 1200, 0, (nI 1)) :: ws) h)) := by
  refine ex_M_of ok_X12_refuses cw_X12_refuses rfl hst (Nat.le_of_ble_eq_true rfl) ?_
  refine ex_aload_n ok_X12_refuses (mi 0 rfl) rfl ?_
  refine ex_iload_n ok_X12_refuses (mi 1 rfl) rfl ?_
  refine ex_if_ne (tgt := 9) ok_X12_refuses (mi 2 rfl) rfl (fun hn => absurd (by decide) hn) (fun _ => ?_)
  refine ex_iconst ok_X12_refuses (mi 3 rfl) ?_
  refine ex_goto (tgt := 26) ok_X12_refuses (mi 4 rfl) rfl ?_
  refine ex_putIa (a := 0) (v := (nI 1)) ok_X12_refuses (mi 14 rfl) rfl rfl (fk hs 0 rfl) (by decide) ?_
  refine ex_aload_n ok_X12_refuses (mi 15 rfl) rfl ?_
  refine ex_getIx ok_X12_refuses (mi 16 rfl) rfl rfl (kq apq (fk hs 0 rfl)) (apI (a := 0) rfl) ?_
  refine ex_if_le (tgt := 40) ok_X12_refuses (mi 17 rfl) rfl (fun hn => absurd hn (by decide)) (fun _ => ?_)
  refine ex_iconst ok_X12_refuses (mi 18 rfl) ?_
  refine ex_goto (tgt := 41) ok_X12_refuses (mi 19 rfl) rfl ?_
  refine ex_zret ok_X12_refuses (mi 21 rfl) rfl (by decide) ?_
  exact ⟨inlI (by decide), rfl⟩
theorem m_ref010 {G : GE} (hst : (ge_l G).stackTraces = false) {x : Nat} {ws : List WT} {h : GT} (hs : sh T12 h x) : ex_M G 1 0 0 my_X12_refuses [.ref x, .int (nI 0), .int (nI 1), .int (nI 0)] (ap x ws h) (rv (some (.int (nI 1))) (ap x ((0, 0, 1200, 0, (nI 1)) :: ws) h)) := by
  refine ex_M_of ok_X12_refuses cw_X12_refuses rfl hst (Nat.le_of_ble_eq_true rfl) ?_
  refine ex_aload_n ok_X12_refuses (mi 0 rfl) rfl ?_
  refine ex_iload_n ok_X12_refuses (mi 1 rfl) rfl ?_
  refine ex_if_ne (tgt := 9) ok_X12_refuses (mi 2 rfl) rfl (fun hn => absurd (by decide) hn) (fun _ => ?_)
  refine ex_iconst ok_X12_refuses (mi 3 rfl) ?_
  refine ex_goto (tgt := 26) ok_X12_refuses (mi 4 rfl) rfl ?_
  refine ex_putIa (a := 0) (v := (nI 1)) ok_X12_refuses (mi 14 rfl) rfl rfl (fk hs 0 rfl) (by decide) ?_
  refine ex_aload_n ok_X12_refuses (mi 15 rfl) rfl ?_
  refine ex_getIx ok_X12_refuses (mi 16 rfl) rfl rfl (kq apq (fk hs 0 rfl)) (apI (a := 0) rfl) ?_
  refine ex_if_le (tgt := 40) ok_X12_refuses (mi 17 rfl) rfl (fun hn => absurd hn (by decide)) (fun _ => ?_)
  refine ex_iconst ok_X12_refuses (mi 18 rfl) ?_
  refine ex_goto (tgt := 41) ok_X12_refuses (mi 19 rfl) rfl ?_
  refine ex_zret ok_X12_refuses (mi 21 rfl) rfl (by decide) ?_
  exact ⟨inlI (by decide), rfl⟩
theorem m_ref011 {G : GE} (hst : (ge_l G).stackTraces = false) {x : Nat} {ws : List WT} {h : GT} (hs : sh T12 h x) : ex_M G 1 0 0 my_X12_refuses [.ref x, .int (nI 0), .int (nI 1), .int (nI 1)] (ap x ws h) (rv (some (.int (nI 1))) (ap x ((0, 0, 1200, 0, (nI 1)) :: ws) h)) := by
  refine ex_M_of ok_X12_refuses cw_X12_refuses rfl hst (Nat.le_of_ble_eq_true rfl) ?_
  refine ex_aload_n ok_X12_refuses (mi 0 rfl) rfl ?_
  refine ex_iload_n ok_X12_refuses (mi 1 rfl) rfl ?_
  refine ex_if_ne (tgt := 9) ok_X12_refuses (mi 2 rfl) rfl (fun hn => absurd (by decide) hn) (fun _ => ?_)
  refine ex_iconst ok_X12_refuses (mi 3 rfl) ?_
  refine ex_goto (tgt := 26) ok_X12_refuses (mi 4 rfl) rfl ?_
  refine ex_putIa (a := 0) (v := (nI 1)) ok_X12_refuses (mi 14 rfl) rfl rfl (fk hs 0 rfl) (by decide) ?_
  refine ex_aload_n ok_X12_refuses (mi 15 rfl) rfl ?_
  refine ex_getIx ok_X12_refuses (mi 16 rfl) rfl rfl (kq apq (fk hs 0 rfl)) (apI (a := 0) rfl) ?_
  refine ex_if_le (tgt := 40) ok_X12_refuses (mi 17 rfl) rfl (fun hn => absurd hn (by decide)) (fun _ => ?_)
  refine ex_iconst ok_X12_refuses (mi 18 rfl) ?_
  refine ex_goto (tgt := 41) ok_X12_refuses (mi 19 rfl) rfl ?_
  refine ex_zret ok_X12_refuses (mi 21 rfl) rfl (by decide) ?_
  exact ⟨inlI (by decide), rfl⟩
theorem m_ref100 {G : GE} (hst : (ge_l G).stackTraces = false) {x : Nat} {ws : List WT} {h : GT} (hs : sh T12 h x) : ex_M G 1 0 0 my_X12_refuses [.ref x, .int (nI 1), .int (nI 0), .int (nI 0)] (ap x ws h) (rv (some (.int (nI 1))) (ap x ((0, 0, 1200, 0, (nI 2)) :: ws) h)) := by
  refine ex_M_of ok_X12_refuses cw_X12_refuses rfl hst (Nat.le_of_ble_eq_true rfl) ?_
  refine ex_aload_n ok_X12_refuses (mi 0 rfl) rfl ?_
  refine ex_iload_n ok_X12_refuses (mi 1 rfl) rfl ?_
  refine ex_if_ne (tgt := 9) ok_X12_refuses (mi 2 rfl) rfl (fun _ => ?_) (fun hn => absurd hn (by decide))
  refine ex_iload_n ok_X12_refuses (mi 5 rfl) rfl ?_
  refine ex_if_ne (tgt := 17) ok_X12_refuses (mi 6 rfl) rfl (fun hn => absurd (by decide) hn) (fun _ => ?_)
  refine ex_iconst ok_X12_refuses (mi 7 rfl) ?_
  refine ex_goto (tgt := 26) ok_X12_refuses (mi 8 rfl) rfl ?_
  refine ex_putIa (a := 0) (v := (nI 2)) ok_X12_refuses (mi 14 rfl) rfl rfl (fk hs 0 rfl) (by decide) ?_
  refine ex_aload_n ok_X12_refuses (mi 15 rfl) rfl ?_
  refine ex_getIx ok_X12_refuses (mi 16 rfl) rfl rfl (kq apq (fk hs 0 rfl)) (apI (a := 0) rfl) ?_
  refine ex_if_le (tgt := 40) ok_X12_refuses (mi 17 rfl) rfl (fun hn => absurd hn (by decide)) (fun _ => ?_)
  refine ex_iconst ok_X12_refuses (mi 18 rfl) ?_
  refine ex_goto (tgt := 41) ok_X12_refuses (mi 19 rfl) rfl ?_
  refine ex_zret ok_X12_refuses (mi 21 rfl) rfl (by decide) ?_
  exact ⟨inlI (by decide), rfl⟩
theorem m_ref101 {G : GE} (hst : (ge_l G).stackTraces = false) {x : Nat} {ws : List WT} {h : GT} (hs : sh T12 h x) : ex_M G 1 0 0 my_X12_refuses [.ref x, .int (nI 1), .int (nI 0), .int (nI 1)] (ap x ws h) (rv (some (.int (nI 1))) (ap x ((0, 0, 1200, 0, (nI 2)) :: ws) h)) := by
  refine ex_M_of ok_X12_refuses cw_X12_refuses rfl hst (Nat.le_of_ble_eq_true rfl) ?_
  refine ex_aload_n ok_X12_refuses (mi 0 rfl) rfl ?_
  refine ex_iload_n ok_X12_refuses (mi 1 rfl) rfl ?_
  refine ex_if_ne (tgt := 9) ok_X12_refuses (mi 2 rfl) rfl (fun _ => ?_) (fun hn => absurd hn (by decide))
  refine ex_iload_n ok_X12_refuses (mi 5 rfl) rfl ?_
  refine ex_if_ne (tgt := 17) ok_X12_refuses (mi 6 rfl) rfl (fun hn => absurd (by decide) hn) (fun _ => ?_)
  refine ex_iconst ok_X12_refuses (mi 7 rfl) ?_
  refine ex_goto (tgt := 26) ok_X12_refuses (mi 8 rfl) rfl ?_
  refine ex_putIa (a := 0) (v := (nI 2)) ok_X12_refuses (mi 14 rfl) rfl rfl (fk hs 0 rfl) (by decide) ?_
  refine ex_aload_n ok_X12_refuses (mi 15 rfl) rfl ?_
  refine ex_getIx ok_X12_refuses (mi 16 rfl) rfl rfl (kq apq (fk hs 0 rfl)) (apI (a := 0) rfl) ?_
  refine ex_if_le (tgt := 40) ok_X12_refuses (mi 17 rfl) rfl (fun hn => absurd hn (by decide)) (fun _ => ?_)
  refine ex_iconst ok_X12_refuses (mi 18 rfl) ?_
  refine ex_goto (tgt := 41) ok_X12_refuses (mi 19 rfl) rfl ?_
  refine ex_zret ok_X12_refuses (mi 21 rfl) rfl (by decide) ?_
  exact ⟨inlI (by decide), rfl⟩
theorem m_ref110 {G : GE} (hst : (ge_l G).stackTraces = false) {x : Nat} {ws : List WT} {h : GT} (hs : sh T12 h x) : ex_M G 1 0 0 my_X12_refuses [.ref x, .int (nI 1), .int (nI 1), .int (nI 0)] (ap x ws h) (rv (some (.int (nI 1))) (ap x ((0, 0, 1200, 0, (nI 3)) :: ws) h)) := by
  refine ex_M_of ok_X12_refuses cw_X12_refuses rfl hst (Nat.le_of_ble_eq_true rfl) ?_
  refine ex_aload_n ok_X12_refuses (mi 0 rfl) rfl ?_
  refine ex_iload_n ok_X12_refuses (mi 1 rfl) rfl ?_
  refine ex_if_ne (tgt := 9) ok_X12_refuses (mi 2 rfl) rfl (fun _ => ?_) (fun hn => absurd hn (by decide))
  refine ex_iload_n ok_X12_refuses (mi 5 rfl) rfl ?_
  refine ex_if_ne (tgt := 17) ok_X12_refuses (mi 6 rfl) rfl (fun _ => ?_) (fun hn => absurd hn (by decide))
  refine ex_iload_n ok_X12_refuses (mi 9 rfl) rfl ?_
  refine ex_if_ne (tgt := 25) ok_X12_refuses (mi 10 rfl) rfl (fun hn => absurd (by decide) hn) (fun _ => ?_)
  refine ex_iconst ok_X12_refuses (mi 11 rfl) ?_
  refine ex_goto (tgt := 26) ok_X12_refuses (mi 12 rfl) rfl ?_
  refine ex_putIa (a := 0) (v := (nI 3)) ok_X12_refuses (mi 14 rfl) rfl rfl (fk hs 0 rfl) (by decide) ?_
  refine ex_aload_n ok_X12_refuses (mi 15 rfl) rfl ?_
  refine ex_getIx ok_X12_refuses (mi 16 rfl) rfl rfl (kq apq (fk hs 0 rfl)) (apI (a := 0) rfl) ?_
  refine ex_if_le (tgt := 40) ok_X12_refuses (mi 17 rfl) rfl (fun hn => absurd hn (by decide)) (fun _ => ?_)
  refine ex_iconst ok_X12_refuses (mi 18 rfl) ?_
  refine ex_goto (tgt := 41) ok_X12_refuses (mi 19 rfl) rfl ?_
  refine ex_zret ok_X12_refuses (mi 21 rfl) rfl (by decide) ?_
  exact ⟨inlI (by decide), rfl⟩
theorem m_ref111 {G : GE} (hst : (ge_l G).stackTraces = false) {x : Nat} {ws : List WT} {h : GT} (hs : sh T12 h x) : ex_M G 1 0 0 my_X12_refuses [.ref x, .int (nI 1), .int (nI 1), .int (nI 1)] (ap x ws h) (rv (some (.int (nI 0))) (ap x ((0, 0, 1200, 0, (nI 0)) :: ws) h)) := by
  refine ex_M_of ok_X12_refuses cw_X12_refuses rfl hst (Nat.le_of_ble_eq_true rfl) ?_
  refine ex_aload_n ok_X12_refuses (mi 0 rfl) rfl ?_
  refine ex_iload_n ok_X12_refuses (mi 1 rfl) rfl ?_
  refine ex_if_ne (tgt := 9) ok_X12_refuses (mi 2 rfl) rfl (fun _ => ?_) (fun hn => absurd hn (by decide))
  refine ex_iload_n ok_X12_refuses (mi 5 rfl) rfl ?_
  refine ex_if_ne (tgt := 17) ok_X12_refuses (mi 6 rfl) rfl (fun _ => ?_) (fun hn => absurd hn (by decide))
  refine ex_iload_n ok_X12_refuses (mi 9 rfl) rfl ?_
  refine ex_if_ne (tgt := 25) ok_X12_refuses (mi 10 rfl) rfl (fun _ => ?_) (fun hn => absurd hn (by decide))
  refine ex_iconst ok_X12_refuses (mi 13 rfl) ?_
  refine ex_putIa (a := 0) (v := (nI 0)) ok_X12_refuses (mi 14 rfl) rfl rfl (fk hs 0 rfl) (by decide) ?_
  refine ex_aload_n ok_X12_refuses (mi 15 rfl) rfl ?_
  refine ex_getIx ok_X12_refuses (mi 16 rfl) rfl rfl (kq apq (fk hs 0 rfl)) (apI (a := 0) rfl) ?_
  refine ex_if_le (tgt := 40) ok_X12_refuses (mi 17 rfl) rfl (fun _ => ?_) (fun hn => absurd (by decide) hn)
  refine ex_iconst ok_X12_refuses (mi 20 rfl) ?_
  refine ex_zret ok_X12_refuses (mi 21 rfl) rfl (by decide) ?_
  exact ⟨inlI (by decide), rfl⟩
