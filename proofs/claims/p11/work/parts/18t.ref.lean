/-! ===== in, refuses: exactly ===== -/
theorem s_in {G : GE} (hst : (ge_l G).stackTraces = false) {g : GT} {p0 p1 p2 : Int32} : ex_M G 1 0 0 my_X12_in [.int p0, .int p1, .int p2] g (SVp g (fun v => ∃ i, v = some (.int i) ∧ (i = 0 ∧ (p0 < p1 ∨ p2 < p0) ∨ i = 1 ∧ ¬ p0 < p1 ∧ ¬ p2 < p0))) := by
  refine ex_M_of ok_X12_in cw_X12_in rfl hst (Nat.le_of_ble_eq_true rfl) ?_
  refine ex_iload_n ok_X12_in (mi 0 rfl) rfl ?_
  refine ex_iload_n ok_X12_in (mi 1 rfl) rfl ?_
  refine ex_icmp_lt (tgt := 14) ok_X12_in (mi 2 rfl) rfl (fun h2 => ?_) (fun h2 => ?_)
  · refine ex_iconst ok_X12_in (mi 8 rfl) ?_
    refine ex_zret ok_X12_in (mi 9 rfl) rfl (by decide) ?_
    exact ⟨_, rfl, ⟨_, rfl, Or.inl ⟨by decide, Or.inl h2⟩⟩, rfl⟩
  · refine ex_iload_n ok_X12_in (mi 3 rfl) rfl ?_
    refine ex_iload_n ok_X12_in (mi 4 rfl) rfl ?_
    refine ex_icmp_gt (tgt := 14) ok_X12_in (mi 5 rfl) rfl (fun h7 => ?_) (fun h7 => ?_)
    · refine ex_iconst ok_X12_in (mi 8 rfl) ?_
      refine ex_zret ok_X12_in (mi 9 rfl) rfl (by decide) ?_
      exact ⟨_, rfl, ⟨_, rfl, Or.inl ⟨by decide, Or.inr h7⟩⟩, rfl⟩
    · refine ex_iconst ok_X12_in (mi 6 rfl) ?_
      refine ex_goto (tgt := 15) ok_X12_in (mi 7 rfl) rfl ?_
      refine ex_zret ok_X12_in (mi 9 rfl) rfl (by decide) ?_
      exact ⟨_, rfl, ⟨_, rfl, Or.inr ⟨by decide, h2, h7⟩⟩, rfl⟩
def RF (y : Nat) (g : GT) (p0 p1 p2 : Int32) : RT → GT → Prop := fun r g' => ∃ b v, r = .inl (some (.int b)) ∧ g' = px_I g 1200 y v ∧ (b = 0 ∧ p0 ≠ 0 ∧ p1 ≠ 0 ∧ p2 ≠ 0 ∧ v = 0 ∨ b = 1 ∧ (p0 = 0 → v = 1) ∧ (p0 = 0 ∨ p1 = 0 ∨ p2 = 0))
theorem s_ref {G : GE} (hst : (ge_l G).stackTraces = false) {y : Nat} {g : GT} {p0 p1 p2 : Int32} (S : sh T12 g y) : ex_M G 1 0 0 my_X12_refuses [.ref y, .int p0, .int p1, .int p2] g (RF y g p0 p1 p2) := by
  refine ex_M_of ok_X12_refuses cw_X12_refuses rfl hst (Nat.le_of_ble_eq_true rfl) ?_
  refine ex_aload_n ok_X12_refuses (mi 0 rfl) rfl ?_
  refine ex_iload_n ok_X12_refuses (mi 1 rfl) rfl ?_
  refine ex_if_ne (tgt := 9) ok_X12_refuses (mi 2 rfl) rfl (fun h2 => ?_) (fun h2 => ?_)
  · refine ex_iload_n ok_X12_refuses (mi 5 rfl) rfl ?_
    refine ex_if_ne (tgt := 17) ok_X12_refuses (mi 6 rfl) rfl (fun h10 => ?_) (fun h10 => ?_)
    · refine ex_iload_n ok_X12_refuses (mi 9 rfl) rfl ?_
      refine ex_if_ne (tgt := 25) ok_X12_refuses (mi 10 rfl) rfl (fun h18 => ?_) (fun h18 => ?_)
      · refine ex_iconst ok_X12_refuses (mi 13 rfl) ?_
        refine ex_putI ok_X12_refuses (mi 14 rfl) rfl (fk S 0 rfl) rfl ?_
        have S1 : sh T12 (px_I g 1200 y (Int32.ofInt 0)) y := shq (sqI sq0) S
        refine ex_aload_n ok_X12_refuses (mi 15 rfl) rfl ?_
        refine ex_getI ok_X12_refuses (mi 16 rfl) rfl rfl (fk S1 0 rfl) ?_
        refine ex_top (w := nI 0) (by rw [gxI_I, if_pos ⟨rfl, rfl⟩]; decide) ?_
        refine ex_if_le (tgt := 40) ok_X12_refuses (mi 17 rfl) rfl (fun _ => ?_) (fun hn => absurd (by decide) hn)
        refine ex_iconst ok_X12_refuses (mi 20 rfl) ?_
        refine ex_zret ok_X12_refuses (mi 21 rfl) rfl (by decide) ?_
        exact ⟨_, _, rfl, rfl, Or.inl ⟨by decide, h2, h10, h18, by decide⟩⟩
      · refine ex_iconst ok_X12_refuses (mi 11 rfl) ?_
        refine ex_goto (tgt := 26) ok_X12_refuses (mi 12 rfl) rfl ?_
        refine ex_putI ok_X12_refuses (mi 14 rfl) rfl (fk S 0 rfl) rfl ?_
        have S1 : sh T12 (px_I g 1200 y (Int32.ofInt 3)) y := shq (sqI sq0) S
        refine ex_aload_n ok_X12_refuses (mi 15 rfl) rfl ?_
        refine ex_getI ok_X12_refuses (mi 16 rfl) rfl rfl (fk S1 0 rfl) ?_
        refine ex_top (w := nI 3) (by rw [gxI_I, if_pos ⟨rfl, rfl⟩]; decide) ?_
        refine ex_if_le (tgt := 40) ok_X12_refuses (mi 17 rfl) rfl (fun hn => absurd hn (by decide)) (fun _ => ?_)
        refine ex_iconst ok_X12_refuses (mi 18 rfl) ?_
        refine ex_goto (tgt := 41) ok_X12_refuses (mi 19 rfl) rfl ?_
        refine ex_zret ok_X12_refuses (mi 21 rfl) rfl (by decide) ?_
        exact ⟨_, _, rfl, rfl, Or.inr ⟨by decide, fun h => absurd h h2, Or.inr (Or.inr h18)⟩⟩
    · refine ex_iconst ok_X12_refuses (mi 7 rfl) ?_
      refine ex_goto (tgt := 26) ok_X12_refuses (mi 8 rfl) rfl ?_
      refine ex_putI ok_X12_refuses (mi 14 rfl) rfl (fk S 0 rfl) rfl ?_
      have S1 : sh T12 (px_I g 1200 y (Int32.ofInt 2)) y := shq (sqI sq0) S
      refine ex_aload_n ok_X12_refuses (mi 15 rfl) rfl ?_
      refine ex_getI ok_X12_refuses (mi 16 rfl) rfl rfl (fk S1 0 rfl) ?_
      refine ex_top (w := nI 2) (by rw [gxI_I, if_pos ⟨rfl, rfl⟩]; decide) ?_
      refine ex_if_le (tgt := 40) ok_X12_refuses (mi 17 rfl) rfl (fun hn => absurd hn (by decide)) (fun _ => ?_)
      refine ex_iconst ok_X12_refuses (mi 18 rfl) ?_
      refine ex_goto (tgt := 41) ok_X12_refuses (mi 19 rfl) rfl ?_
      refine ex_zret ok_X12_refuses (mi 21 rfl) rfl (by decide) ?_
      exact ⟨_, _, rfl, rfl, Or.inr ⟨by decide, fun h => absurd h h2, Or.inr (Or.inl h10)⟩⟩
  · refine ex_iconst ok_X12_refuses (mi 3 rfl) ?_
    refine ex_goto (tgt := 26) ok_X12_refuses (mi 4 rfl) rfl ?_
    refine ex_putI ok_X12_refuses (mi 14 rfl) rfl (fk S 0 rfl) rfl ?_
    have S1 : sh T12 (px_I g 1200 y (Int32.ofInt 1)) y := shq (sqI sq0) S
    refine ex_aload_n ok_X12_refuses (mi 15 rfl) rfl ?_
    refine ex_getI ok_X12_refuses (mi 16 rfl) rfl rfl (fk S1 0 rfl) ?_
    refine ex_top (w := nI 1) (by rw [gxI_I, if_pos ⟨rfl, rfl⟩]; decide) ?_
    refine ex_if_le (tgt := 40) ok_X12_refuses (mi 17 rfl) rfl (fun hn => absurd hn (by decide)) (fun _ => ?_)
    refine ex_iconst ok_X12_refuses (mi 18 rfl) ?_
    refine ex_goto (tgt := 41) ok_X12_refuses (mi 19 rfl) rfl ?_
    refine ex_zret ok_X12_refuses (mi 21 rfl) rfl (by decide) ?_
    exact ⟨_, _, rfl, rfl, Or.inr ⟨by decide, fun h => by decide, Or.inl h2⟩⟩
theorem in_vp {v hi : Int32} {n : Nat} (h1 : ¬ v < Int32.ofInt 0) (h2 : ¬ hi < v) (e : hi = nI n) (hn : n < 2 ^ 31 - 1) : vp_in v (n + 1) :=
  vin_le (n := n) (by rw [← Int32.not_lt]; exact h1) (by rw [← Int32.not_lt, ← e]; exact h2) (by omega)
