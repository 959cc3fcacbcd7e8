/-! ===== both sides together ===== -/
theorem okR_of {l r : Int32} (c : vp_in r 300) (e : r - r / 3 * 3 = l) : okR l r := ⟨vlo c (by decide), by
  obtain ⟨j, hj, rfl⟩ := vp_in_of c (by decide)
  exact nI_lt hj (by decide), e⟩
theorem okR_to {l r : Int32} (k : okR l r) : vp_in r 300 := vin_of (by rw [Int32.not_lt]; exact k.1) k.2.1 (by decide)
theorem lt_one {v : Int32} : nI 1 ≤ v → 0 < v := fun h => Int32.lt_of_lt_of_le (by decide) h
theorem one_le {v : Int32} (h : 0 < v) : nI 1 ≤ v := by
  obtain ⟨j, hj, rfl⟩ := nI_of (x := v) (by rw [Int32.not_lt]; exact Int32.le_of_lt h)
  exact nI_le (Nat.pos_of_ne_zero (fun e => by subst e; exact absurd h (by decide))) hj
theorem le_pred {v : Int32} {n : Nat} (h0 : 0 < v) (h : v < nI (n + 1)) (hn : n + 1 < 2 ^ 31) : v ≤ nI n := vhi (vin_of (by rw [Int32.not_lt]; exact Int32.le_of_lt h0) h hn) hn
theorem lt_succ {v : Int32} {n : Nat} (h : v ≤ nI n) (hn : n + 1 < 2 ^ 31) : v < nI (n + 1) := Int32.lt_of_le_of_lt h (nI_lt (Nat.lt_succ_self n) hn)
theorem okG_of {v : Int32} (c : nI 1 ≤ v ∧ v ≤ nI 4095) (e : bcE v ≤ nI 5) : okG v := ⟨lt_one c.1, lt_succ c.2 (by decide), e⟩
theorem okS_of {v : Int32} (c : nI 1 ≤ v ∧ v ≤ nI 511) (e : bcE v = nI 3) : okS v := ⟨lt_one c.1, lt_succ c.2 (by decide), e⟩
theorem okG_to {v : Int32} (k : okG v) : nI 1 ≤ v ∧ v ≤ nI 4095 := ⟨one_le k.1, le_pred k.1 k.2.1 (by decide)⟩
theorem okS_to {v : Int32} (k : okS v) : nI 1 ≤ v ∧ v ≤ nI 511 := ⟨one_le k.1, le_pred k.1 k.2.1 (by decide)⟩
theorem b_begin {G : GE} (hst : (ge_l G).stackTraces = false) {x y : Nat} (p0 p1 p2 : Int32) : ∃ (k : Nat) (v : Int32), k ≤ 2 ∧ CC G 7 4 24 my_X11_begin x [.int p0, .int p1, .int p2] E3 k v ∧ MM G 3 0 0 my_X12_begin y [.int p0, .int p1, .int p2] k v := by
  by_cases c0 : vp_in p0 3
  · obtain ⟨i, hi, rfl⟩ := vp_in_of c0 (by decide)
    rcases (by omega : i = 0 ∨ i = 1 ∨ i = 2) with rfl | rfl | rfl
    · skip
      by_cases c1 : vp_in p1 300
      · by_cases cr : p1 - p1 / 3 * 3 = nI 0
        · have kr : okR (nI 0) p1 := okR_of c1 cr
          by_cases c2 : nI 1 ≤ p2 ∧ p2 ≤ nI 4095
          · by_cases cb : bcE p2 ≤ nI 5
            · skip
              exact ⟨0, (nI 3), by decide, c_begin_0_k hst kr (okG_of c2 cb), d_begin_0_k hst c1 cr c2 cb⟩
            · skip
              exact ⟨2, (nI 0), by decide, c_begin_0_g hst kr (fun k => cb k.2.2), d_begin_0_g2 hst c1 cr c2 cb⟩
          · skip
            exact ⟨2, (nI 0), by decide, c_begin_0_g hst kr (fun k => c2 (okG_to k)), d_begin_0_g1 hst c1 cr c2⟩
        · skip
          exact ⟨2, (nI 0), by decide, c_begin_0_r hst (fun k => cr k.2.2), d_begin_0_r2 hst c1 cr⟩
      · skip
        exact ⟨2, (nI 0), by decide, c_begin_0_r hst (fun k => c1 (okR_to k)), d_begin_0_r1 hst c1⟩
    · skip
      by_cases c1 : vp_in p1 300
      · by_cases cr : p1 - p1 / 3 * 3 = nI 1
        · have kr : okR (nI 1) p1 := okR_of c1 cr
          by_cases c2 : nI 1 ≤ p2 ∧ p2 ≤ nI 4095
          · by_cases cb : bcE p2 ≤ nI 5
            · skip
              exact ⟨0, (nI 3), by decide, c_begin_1_k hst kr (okG_of c2 cb), d_begin_1_k hst c1 cr c2 cb⟩
            · skip
              exact ⟨2, (nI 0), by decide, c_begin_1_g hst kr (fun k => cb k.2.2), d_begin_1_g2 hst c1 cr c2 cb⟩
          · skip
            exact ⟨2, (nI 0), by decide, c_begin_1_g hst kr (fun k => c2 (okG_to k)), d_begin_1_g1 hst c1 cr c2⟩
        · skip
          exact ⟨2, (nI 0), by decide, c_begin_1_r hst (fun k => cr k.2.2), d_begin_1_r2 hst c1 cr⟩
      · skip
        exact ⟨2, (nI 0), by decide, c_begin_1_r hst (fun k => c1 (okR_to k)), d_begin_1_r1 hst c1⟩
    · skip
      by_cases c1 : vp_in p1 300
      · by_cases cr : p1 - p1 / 3 * 3 = nI 2
        · have kr : okR (nI 2) p1 := okR_of c1 cr
          by_cases c2 : nI 1 ≤ p2 ∧ p2 ≤ nI 4095
          · by_cases cb : bcE p2 ≤ nI 5
            · skip
              exact ⟨0, (nI 3), by decide, c_begin_2_k hst kr (okG_of c2 cb), d_begin_2_k hst c1 cr c2 cb⟩
            · skip
              exact ⟨2, (nI 0), by decide, c_begin_2_g hst kr (fun k => cb k.2.2), d_begin_2_g2 hst c1 cr c2 cb⟩
          · skip
            exact ⟨2, (nI 0), by decide, c_begin_2_g hst kr (fun k => c2 (okG_to k)), d_begin_2_g1 hst c1 cr c2⟩
        · skip
          exact ⟨2, (nI 0), by decide, c_begin_2_r hst (fun k => cr k.2.2), d_begin_2_r2 hst c1 cr⟩
      · skip
        exact ⟨2, (nI 0), by decide, c_begin_2_r hst (fun k => c1 (okR_to k)), d_begin_2_r1 hst c1⟩
  · skip
    exact ⟨1, (nI 0), by decide, c_begin_b0 hst c0, d_begin_b0 hst c0⟩
theorem b_propose {G : GE} (hst : (ge_l G).stackTraces = false) {x y : Nat} (p0 p1 : Int32) : ∃ (k : Nat) (v : Int32), k ≤ 2 ∧ CC G 4 4 24 my_X11_propose x [.int p0, .int p1] E3 k v ∧ MM G 4 0 0 my_X12_propose y [.int p0, .int p1] k v := by
  by_cases c0 : vp_in p0 3
  · obtain ⟨i, hi, rfl⟩ := vp_in_of c0 (by decide)
    rcases (by omega : i = 0 ∨ i = 1 ∨ i = 2) with rfl | rfl | rfl
    · skip
      by_cases c1 : nI 1 ≤ p1 ∧ p1 ≤ nI 1000000
      · skip
        exact ⟨0, ((-1)), by decide, c_propose_0_k hst c1, d_propose_0_k hst c1⟩
      · skip
        exact ⟨2, (nI 0), by decide, c_propose_0_b hst c1, d_propose_0_b hst c1⟩
    · skip
      by_cases c1 : nI 1 ≤ p1 ∧ p1 ≤ nI 1000000
      · skip
        exact ⟨0, ((-1)), by decide, c_propose_1_k hst c1, d_propose_1_k hst c1⟩
      · skip
        exact ⟨2, (nI 0), by decide, c_propose_1_b hst c1, d_propose_1_b hst c1⟩
    · skip
      by_cases c1 : nI 1 ≤ p1 ∧ p1 ≤ nI 1000000
      · skip
        exact ⟨0, ((-1)), by decide, c_propose_2_k hst c1, d_propose_2_k hst c1⟩
      · skip
        exact ⟨2, (nI 0), by decide, c_propose_2_b hst c1, d_propose_2_b hst c1⟩
  · by_cases c1 : nI 1 ≤ p1 ∧ p1 ≤ nI 1000000
    · skip
      exact ⟨1, (nI 0), by decide, c_propose_b0 hst (p2 := 0) c0, d_propose_b0_k hst (p2 := 0) c0 c1⟩
    · skip
      exact ⟨1, (nI 0), by decide, c_propose_b0 hst (p2 := 0) c0, d_propose_b0_b hst (p2 := 0) c0 c1⟩
theorem b_collect {G : GE} (hst : (ge_l G).stackTraces = false) {x y : Nat} (p0 : Int32) : ∃ (k : Nat) (v : Int32), k ≤ 1 ∧ (k = 0 → v = nI 0) ∧ CC G 4 4 24 my_X11_collect x [.int p0] E2 k v ∧ MM G 3 0 0 my_X12_collect y [.int p0] k v := by
  by_cases c0 : vp_in p0 3
  · obtain ⟨i, hi, rfl⟩ := vp_in_of c0 (by decide)
    rcases (by omega : i = 0 ∨ i = 1 ∨ i = 2) with rfl | rfl | rfl
    · skip
      exact ⟨0, (nI 0), by decide, fun _ => by decide, c_collect_0 hst, d_collect_0 hst⟩
    · skip
      exact ⟨0, (nI 0), by decide, fun _ => by decide, c_collect_1 hst, d_collect_1 hst⟩
    · skip
      exact ⟨0, (nI 0), by decide, fun _ => by decide, c_collect_2 hst, d_collect_2 hst⟩
  · skip
    exact ⟨1, (nI 0), by decide, fun e => absurd e (by decide), c_collect_b0 hst (p1 := 0) (p2 := 0) c0, d_collect_b0 hst (p1 := 0) (p2 := 0) c0⟩
theorem b_reform {G : GE} (hst : (ge_l G).stackTraces = false) {x y : Nat} (p0 p1 p2 : Int32) : ∃ (k : Nat) (v : Int32), k ≤ 2 ∧ CC G 6 4 24 my_X11_reform x [.int p0, .int p1, .int p2] E3 k v ∧ MM G 3 0 0 my_X12_reform y [.int p0, .int p1, .int p2] k v := by
  by_cases c0 : vp_in p0 3
  · obtain ⟨i, hi, rfl⟩ := vp_in_of c0 (by decide)
    rcases (by omega : i = 0 ∨ i = 1 ∨ i = 2) with rfl | rfl | rfl
    · skip
      by_cases c1 : vp_in p1 300
      · by_cases cr : p1 - p1 / 3 * 3 = nI 0
        · have kr : okR (nI 0) p1 := okR_of c1 cr
          by_cases c2 : nI 1 ≤ p2 ∧ p2 ≤ nI 511
          · by_cases cb : bcE p2 = nI 3
            · skip
              exact ⟨0, (nI 3), by decide, c_reform_0_k hst kr (okS_of c2 cb), d_reform_0_k hst c1 cr c2 cb⟩
            · skip
              exact ⟨2, (nI 0), by decide, c_reform_0_g hst kr (fun k => cb k.2.2), d_reform_0_g2 hst c1 cr c2 cb⟩
          · skip
            exact ⟨2, (nI 0), by decide, c_reform_0_g hst kr (fun k => c2 (okS_to k)), d_reform_0_g1 hst c1 cr c2⟩
        · skip
          exact ⟨2, (nI 0), by decide, c_reform_0_r hst (fun k => cr k.2.2), d_reform_0_r2 hst c1 cr⟩
      · skip
        exact ⟨2, (nI 0), by decide, c_reform_0_r hst (fun k => c1 (okR_to k)), d_reform_0_r1 hst c1⟩
    · skip
      by_cases c1 : vp_in p1 300
      · by_cases cr : p1 - p1 / 3 * 3 = nI 1
        · have kr : okR (nI 1) p1 := okR_of c1 cr
          by_cases c2 : nI 1 ≤ p2 ∧ p2 ≤ nI 511
          · by_cases cb : bcE p2 = nI 3
            · skip
              exact ⟨0, (nI 3), by decide, c_reform_1_k hst kr (okS_of c2 cb), d_reform_1_k hst c1 cr c2 cb⟩
            · skip
              exact ⟨2, (nI 0), by decide, c_reform_1_g hst kr (fun k => cb k.2.2), d_reform_1_g2 hst c1 cr c2 cb⟩
          · skip
            exact ⟨2, (nI 0), by decide, c_reform_1_g hst kr (fun k => c2 (okS_to k)), d_reform_1_g1 hst c1 cr c2⟩
        · skip
          exact ⟨2, (nI 0), by decide, c_reform_1_r hst (fun k => cr k.2.2), d_reform_1_r2 hst c1 cr⟩
      · skip
        exact ⟨2, (nI 0), by decide, c_reform_1_r hst (fun k => c1 (okR_to k)), d_reform_1_r1 hst c1⟩
    · skip
      by_cases c1 : vp_in p1 300
      · by_cases cr : p1 - p1 / 3 * 3 = nI 2
        · have kr : okR (nI 2) p1 := okR_of c1 cr
          by_cases c2 : nI 1 ≤ p2 ∧ p2 ≤ nI 511
          · by_cases cb : bcE p2 = nI 3
            · skip
              exact ⟨0, (nI 3), by decide, c_reform_2_k hst kr (okS_of c2 cb), d_reform_2_k hst c1 cr c2 cb⟩
            · skip
              exact ⟨2, (nI 0), by decide, c_reform_2_g hst kr (fun k => cb k.2.2), d_reform_2_g2 hst c1 cr c2 cb⟩
          · skip
            exact ⟨2, (nI 0), by decide, c_reform_2_g hst kr (fun k => c2 (okS_to k)), d_reform_2_g1 hst c1 cr c2⟩
        · skip
          exact ⟨2, (nI 0), by decide, c_reform_2_r hst (fun k => cr k.2.2), d_reform_2_r2 hst c1 cr⟩
      · skip
        exact ⟨2, (nI 0), by decide, c_reform_2_r hst (fun k => c1 (okR_to k)), d_reform_2_r1 hst c1⟩
  · skip
    exact ⟨1, (nI 0), by decide, c_reform_b0 hst c0, d_reform_b0 hst c0⟩
theorem b_again {G : GE} (hst : (ge_l G).stackTraces = false) {x y : Nat} (p0 : Int32) : ∃ (k : Nat) (v : Int32), k ≤ 1 ∧ CC G 5 4 24 my_X11_again x [.int p0] E2 k v ∧ MM G 3 0 0 my_X12_again y [.int p0] k v := by
  by_cases c0 : vp_in p0 3
  · obtain ⟨i, hi, rfl⟩ := vp_in_of c0 (by decide)
    rcases (by omega : i = 0 ∨ i = 1 ∨ i = 2) with rfl | rfl | rfl
    · skip
      exact ⟨0, (nI 0), by decide, c_again_0 hst, d_again_0 hst⟩
    · skip
      exact ⟨0, (nI 0), by decide, c_again_1 hst, d_again_1 hst⟩
    · skip
      exact ⟨0, (nI 0), by decide, c_again_2 hst, d_again_2 hst⟩
  · skip
    exact ⟨1, (nI 0), by decide, c_again_b0 hst (p1 := 0) (p2 := 0) c0, d_again_b0 hst (p1 := 0) (p2 := 0) c0⟩
theorem b_deliver {G : GE} (hst : (ge_l G).stackTraces = false) {x y : Nat} (p0 : Int32) : ∃ (k : Nat) (v : Int32), k = 1 ∧ CC G 8 4 24 my_X11_deliver x [.int p0] E3 k v ∧ MM G 8 0 0 my_X12_deliver y [.int p0] k v := by
  exact ⟨1, (nI 0), by decide, c_deliver hst, d_deliver hst (p1 := 0) (p2 := 0)⟩
theorem b_run {G : GE} (hst : (ge_l G).stackTraces = false) {x y : Nat} (p0 : Int32) : ∃ (k : Nat) (v : Int32), k ≤ 1 ∧ CC G 8 4 24 my_X11_run x [.int p0] E1 k v ∧ MM G 8 0 0 my_X12_run y [.int p0] k v := by
  by_cases c0 : 0 ≤ p0 ∧ p0 ≤ nI 2000
  · skip
    exact ⟨0, (nI 0), by decide, c_run_k hst c0, d_run_k hst (p1 := 0) (p2 := 0) c0⟩
  · skip
    exact ⟨1, (nI 0), by decide, c_run_b hst c0, d_run_b hst (p1 := 0) (p2 := 0) c0⟩
theorem b_lose {G : GE} (hst : (ge_l G).stackTraces = false) {x y : Nat} (p0 : Int32) : ∃ (k : Nat) (v : Int32), k = 1 ∧ CC G 3 4 24 my_X11_lose x [.int p0] E3 k v ∧ MM G 2 0 0 my_X12_lose y [.int p0] k v := by
  exact ⟨1, (nI 0), by decide, c_lose hst, d_lose hst (p1 := 0) (p2 := 0)⟩
theorem b_twice {G : GE} (hst : (ge_l G).stackTraces = false) {x y : Nat} (p0 : Int32) : ∃ (k : Nat) (v : Int32), k = 1 ∧ CC G 2 4 24 my_X11_twice x [.int p0] E3 k v ∧ MM G 2 0 0 my_X12_twice y [.int p0] k v := by
  exact ⟨1, (nI 0), by decide, c_twice hst, d_twice hst (p1 := 0) (p2 := 0)⟩
theorem b_up {G : GE} (hst : (ge_l G).stackTraces = false) {x y : Nat} (p0 p1 p2 : Int32) (hb : p2 = nI 0 ∨ p2 = nI 1) : ∃ (k : Nat) (v : Int32), k ≤ 1 ∧ (k = 0 → v = nI 1) ∧ CC G 3 4 24 my_X11_up x [.int p0, .int p1, .int p2] E3 k v ∧ MM G 2 0 0 my_X12_up y [.int p0, .int p1, .int p2] k v := by
  by_cases c0 : vp_in p0 4
  · obtain ⟨i, hi, rfl⟩ := vp_in_of c0 (by decide)
    rcases (by omega : i = 0 ∨ i = 1 ∨ i = 2 ∨ i = 3) with rfl | rfl | rfl | rfl
    · skip
      by_cases c1 : vp_in p1 3
      · obtain ⟨j, hj, rfl⟩ := vp_in_of c1 (by decide)
        rcases hb with rfl | rfl
        · skip
          exact ⟨0, (nI 1), by decide, fun _ => by decide, c_up_0_0 hst hj, d_up_0_0 hst hj⟩
        · skip
          exact ⟨0, (nI 1), by decide, fun _ => by decide, c_up_0_1 hst hj, d_up_0_1 hst hj⟩
      · skip
        exact ⟨1, (nI 0), by decide, fun e => absurd e (by decide), c_up_0_b1 hst c1, d_up_0_b1 hst c1⟩
    · skip
      by_cases c1 : vp_in p1 9
      · obtain ⟨j, hj, rfl⟩ := vp_in_of c1 (by decide)
        rcases hb with rfl | rfl
        · skip
          exact ⟨0, (nI 1), by decide, fun _ => by decide, c_up_1_0 hst hj, d_up_1_0 hst hj⟩
        · skip
          exact ⟨0, (nI 1), by decide, fun _ => by decide, c_up_1_1 hst hj, d_up_1_1 hst hj⟩
      · skip
        exact ⟨1, (nI 0), by decide, fun e => absurd e (by decide), c_up_1_b1 hst c1, d_up_1_b1 hst c1⟩
    · skip
      by_cases c1 : vp_in p1 12
      · obtain ⟨j, hj, rfl⟩ := vp_in_of c1 (by decide)
        rcases hb with rfl | rfl
        · skip
          exact ⟨0, (nI 1), by decide, fun _ => by decide, c_up_2_0 hst hj, d_up_2_0 hst hj⟩
        · skip
          exact ⟨0, (nI 1), by decide, fun _ => by decide, c_up_2_1 hst hj, d_up_2_1 hst hj⟩
      · skip
        exact ⟨1, (nI 0), by decide, fun e => absurd e (by decide), c_up_2_b1 hst c1, d_up_2_b1 hst c1⟩
    · skip
      by_cases c1 : vp_in p1 3
      · obtain ⟨j, hj, rfl⟩ := vp_in_of c1 (by decide)
        rcases hb with rfl | rfl
        · skip
          exact ⟨0, (nI 1), by decide, fun _ => by decide, c_up_3_0 hst hj, d_up_3_0 hst hj⟩
        · skip
          exact ⟨0, (nI 1), by decide, fun _ => by decide, c_up_3_1 hst hj, d_up_3_1 hst hj⟩
      · skip
        exact ⟨1, (nI 0), by decide, fun e => absurd e (by decide), c_up_3_b1 hst c1, d_up_3_b1 hst c1⟩
  · skip
    exact ⟨1, (nI 0), by decide, fun e => absurd e (by decide), c_up_b0 hst c0, d_up_b0 hst c0⟩
theorem b_message {G : GE} (hst : (ge_l G).stackTraces = false) {x y : Nat} (p0 p1 : Int32) : ∃ (k : Nat) (v : Int32), k = 1 ∧ CC G 5 4 24 my_X11_message x [.int p0, .int p1] E3 k v ∧ MM G 2 0 0 my_X12_message y [.int p0, .int p1] k v := by
  exact ⟨1, (nI 0), by decide, c_message hst, d_message hst (p2 := 0)⟩
theorem b_leader {G : GE} (hst : (ge_l G).stackTraces = false) {x y : Nat} (p0 p1 : Int32) : ∃ (k : Nat) (v : Int32), k ≤ 1 ∧ CC G 4 4 24 my_X11_leader x [.int p0, .int p1] E3 k v ∧ MM G 2 0 0 my_X12_leader y [.int p0, .int p1] k v := by
  by_cases c0 : vp_in p0 3
  · obtain ⟨i, hi, rfl⟩ := vp_in_of c0 (by decide)
    rcases (by omega : i = 0 ∨ i = 1 ∨ i = 2) with rfl | rfl | rfl
    · skip
      by_cases c1 : vp_in p1 14
      · obtain ⟨j, hj, rfl⟩ := vp_in_of c1 (by decide)
        rcases (by omega : j = 0 ∨ j = 1 ∨ j = 2 ∨ j = 3 ∨ j = 4 ∨ j = 5 ∨ j = 6 ∨ j = 7 ∨ j = 8 ∨ j = 9 ∨ j = 10 ∨ j = 11 ∨ j = 12 ∨ j = 13) with rfl | rfl | rfl | rfl | rfl | rfl | rfl | rfl | rfl | rfl | rfl | rfl | rfl | rfl
        · skip
          exact ⟨0, (nI 0), by decide, c_leader_0_0 hst, d_leader_0_0 hst⟩
        · skip
          exact ⟨0, ((-1)), by decide, c_leader_0_1 hst, d_leader_0_1 hst⟩
        · skip
          exact ⟨0, (nI 0), by decide, c_leader_0_2 hst, d_leader_0_2 hst⟩
        · skip
          exact ⟨0, (nI 0), by decide, c_leader_0_3 hst, d_leader_0_3 hst⟩
        · skip
          exact ⟨0, (nI 7), by decide, c_leader_0_4 hst, d_leader_0_4 hst⟩
        · skip
          exact ⟨0, (nI 0), by decide, c_leader_0_5 hst, d_leader_0_5 hst⟩
        · skip
          exact ⟨0, (nI 0), by decide, c_leader_0_6 hst, d_leader_0_6 hst⟩
        · skip
          exact ⟨0, (nI 0), by decide, c_leader_0_7 hst, d_leader_0_7 hst⟩
        · skip
          exact ⟨0, (nI 0), by decide, c_leader_0_8 hst, d_leader_0_8 hst⟩
        · skip
          exact ⟨0, (nI 0), by decide, c_leader_0_9 hst, d_leader_0_9 hst⟩
        · skip
          exact ⟨0, (nI 0), by decide, c_leader_0_10 hst, d_leader_0_10 hst⟩
        · skip
          exact ⟨0, (nI 0), by decide, c_leader_0_11 hst, d_leader_0_11 hst⟩
        · skip
          exact ⟨0, (nI 0), by decide, c_leader_0_12 hst, d_leader_0_12 hst⟩
        · skip
          exact ⟨0, (nI 0), by decide, c_leader_0_13 hst, d_leader_0_13 hst⟩
      · skip
        exact ⟨1, (nI 0), by decide, c_leader_0_b1 hst c1, d_leader_0_b1 hst c1⟩
    · skip
      by_cases c1 : vp_in p1 14
      · obtain ⟨j, hj, rfl⟩ := vp_in_of c1 (by decide)
        rcases (by omega : j = 0 ∨ j = 1 ∨ j = 2 ∨ j = 3 ∨ j = 4 ∨ j = 5 ∨ j = 6 ∨ j = 7 ∨ j = 8 ∨ j = 9 ∨ j = 10 ∨ j = 11 ∨ j = 12 ∨ j = 13) with rfl | rfl | rfl | rfl | rfl | rfl | rfl | rfl | rfl | rfl | rfl | rfl | rfl | rfl
        · skip
          exact ⟨0, (nI 0), by decide, c_leader_1_0 hst, d_leader_1_0 hst⟩
        · skip
          exact ⟨0, ((-1)), by decide, c_leader_1_1 hst, d_leader_1_1 hst⟩
        · skip
          exact ⟨0, (nI 0), by decide, c_leader_1_2 hst, d_leader_1_2 hst⟩
        · skip
          exact ⟨0, (nI 0), by decide, c_leader_1_3 hst, d_leader_1_3 hst⟩
        · skip
          exact ⟨0, (nI 7), by decide, c_leader_1_4 hst, d_leader_1_4 hst⟩
        · skip
          exact ⟨0, (nI 0), by decide, c_leader_1_5 hst, d_leader_1_5 hst⟩
        · skip
          exact ⟨0, (nI 0), by decide, c_leader_1_6 hst, d_leader_1_6 hst⟩
        · skip
          exact ⟨0, (nI 0), by decide, c_leader_1_7 hst, d_leader_1_7 hst⟩
        · skip
          exact ⟨0, (nI 0), by decide, c_leader_1_8 hst, d_leader_1_8 hst⟩
        · skip
          exact ⟨0, (nI 0), by decide, c_leader_1_9 hst, d_leader_1_9 hst⟩
        · skip
          exact ⟨0, (nI 0), by decide, c_leader_1_10 hst, d_leader_1_10 hst⟩
        · skip
          exact ⟨0, (nI 0), by decide, c_leader_1_11 hst, d_leader_1_11 hst⟩
        · skip
          exact ⟨0, (nI 0), by decide, c_leader_1_12 hst, d_leader_1_12 hst⟩
        · skip
          exact ⟨0, (nI 0), by decide, c_leader_1_13 hst, d_leader_1_13 hst⟩
      · skip
        exact ⟨1, (nI 0), by decide, c_leader_1_b1 hst c1, d_leader_1_b1 hst c1⟩
    · skip
      by_cases c1 : vp_in p1 14
      · obtain ⟨j, hj, rfl⟩ := vp_in_of c1 (by decide)
        rcases (by omega : j = 0 ∨ j = 1 ∨ j = 2 ∨ j = 3 ∨ j = 4 ∨ j = 5 ∨ j = 6 ∨ j = 7 ∨ j = 8 ∨ j = 9 ∨ j = 10 ∨ j = 11 ∨ j = 12 ∨ j = 13) with rfl | rfl | rfl | rfl | rfl | rfl | rfl | rfl | rfl | rfl | rfl | rfl | rfl | rfl
        · skip
          exact ⟨0, (nI 0), by decide, c_leader_2_0 hst, d_leader_2_0 hst⟩
        · skip
          exact ⟨0, ((-1)), by decide, c_leader_2_1 hst, d_leader_2_1 hst⟩
        · skip
          exact ⟨0, (nI 0), by decide, c_leader_2_2 hst, d_leader_2_2 hst⟩
        · skip
          exact ⟨0, (nI 0), by decide, c_leader_2_3 hst, d_leader_2_3 hst⟩
        · skip
          exact ⟨0, (nI 7), by decide, c_leader_2_4 hst, d_leader_2_4 hst⟩
        · skip
          exact ⟨0, (nI 0), by decide, c_leader_2_5 hst, d_leader_2_5 hst⟩
        · skip
          exact ⟨0, (nI 0), by decide, c_leader_2_6 hst, d_leader_2_6 hst⟩
        · skip
          exact ⟨0, (nI 0), by decide, c_leader_2_7 hst, d_leader_2_7 hst⟩
        · skip
          exact ⟨0, (nI 0), by decide, c_leader_2_8 hst, d_leader_2_8 hst⟩
        · skip
          exact ⟨0, (nI 0), by decide, c_leader_2_9 hst, d_leader_2_9 hst⟩
        · skip
          exact ⟨0, (nI 0), by decide, c_leader_2_10 hst, d_leader_2_10 hst⟩
        · skip
          exact ⟨0, (nI 0), by decide, c_leader_2_11 hst, d_leader_2_11 hst⟩
        · skip
          exact ⟨0, (nI 0), by decide, c_leader_2_12 hst, d_leader_2_12 hst⟩
        · skip
          exact ⟨0, (nI 0), by decide, c_leader_2_13 hst, d_leader_2_13 hst⟩
      · skip
        exact ⟨1, (nI 0), by decide, c_leader_2_b1 hst c1, d_leader_2_b1 hst c1⟩
  · skip
    exact ⟨1, (nI 0), by decide, c_leader_b0 hst (p2 := 0) c0, d_leader_b0 hst (p2 := 0) c0⟩
theorem b_slot {G : GE} (hst : (ge_l G).stackTraces = false) {x y : Nat} (p0 p1 p2 : Int32) : ∃ (k : Nat) (v : Int32), k ≤ 1 ∧ CC G 3 4 24 my_X11_slot x [.int p0, .int p1, .int p2] E3 k v ∧ MM G 2 0 0 my_X12_slot y [.int p0, .int p1, .int p2] k v := by
  by_cases c0 : vp_in p0 3
  · obtain ⟨i, hi, rfl⟩ := vp_in_of c0 (by decide)
    rcases (by omega : i = 0 ∨ i = 1 ∨ i = 2) with rfl | rfl | rfl
    · skip
      by_cases c1 : vp_in p1 16
      · by_cases c2 : vp_in p2 4
        · obtain ⟨j, hj, rfl⟩ := vp_in_of c1 (by decide)
          obtain ⟨w, hw, rfl⟩ := vp_in_of c2 (by decide)
          rcases (by omega : w = 0 ∨ w = 1 ∨ w = 2 ∨ w = 3) with rfl | rfl | rfl | rfl
          · skip
            exact ⟨0, (nI 0), by decide, c_slot_0_0 hst hj, d_slot_0_0 hst hj⟩
          · skip
            exact ⟨0, ((-1)), by decide, c_slot_0_1 hst hj, d_slot_0_1 hst hj⟩
          · skip
            exact ⟨0, (nI 0), by decide, c_slot_0_2 hst hj, d_slot_0_2 hst hj⟩
          · skip
            exact ⟨0, (nI 0), by decide, c_slot_0_3 hst hj, d_slot_0_3 hst hj⟩
        · skip
          exact ⟨1, (nI 0), by decide, c_slot_0_b2 hst c1 c2, d_slot_0_b2 hst c1 c2⟩
      · skip
        exact ⟨1, (nI 0), by decide, c_slot_0_b1 hst c1, d_slot_0_b1 hst c1⟩
    · skip
      by_cases c1 : vp_in p1 16
      · by_cases c2 : vp_in p2 4
        · obtain ⟨j, hj, rfl⟩ := vp_in_of c1 (by decide)
          obtain ⟨w, hw, rfl⟩ := vp_in_of c2 (by decide)
          rcases (by omega : w = 0 ∨ w = 1 ∨ w = 2 ∨ w = 3) with rfl | rfl | rfl | rfl
          · skip
            exact ⟨0, (nI 0), by decide, c_slot_1_0 hst hj, d_slot_1_0 hst hj⟩
          · skip
            exact ⟨0, ((-1)), by decide, c_slot_1_1 hst hj, d_slot_1_1 hst hj⟩
          · skip
            exact ⟨0, (nI 0), by decide, c_slot_1_2 hst hj, d_slot_1_2 hst hj⟩
          · skip
            exact ⟨0, (nI 0), by decide, c_slot_1_3 hst hj, d_slot_1_3 hst hj⟩
        · skip
          exact ⟨1, (nI 0), by decide, c_slot_1_b2 hst c1 c2, d_slot_1_b2 hst c1 c2⟩
      · skip
        exact ⟨1, (nI 0), by decide, c_slot_1_b1 hst c1, d_slot_1_b1 hst c1⟩
    · skip
      by_cases c1 : vp_in p1 16
      · by_cases c2 : vp_in p2 4
        · obtain ⟨j, hj, rfl⟩ := vp_in_of c1 (by decide)
          obtain ⟨w, hw, rfl⟩ := vp_in_of c2 (by decide)
          rcases (by omega : w = 0 ∨ w = 1 ∨ w = 2 ∨ w = 3) with rfl | rfl | rfl | rfl
          · skip
            exact ⟨0, (nI 0), by decide, c_slot_2_0 hst hj, d_slot_2_0 hst hj⟩
          · skip
            exact ⟨0, ((-1)), by decide, c_slot_2_1 hst hj, d_slot_2_1 hst hj⟩
          · skip
            exact ⟨0, (nI 0), by decide, c_slot_2_2 hst hj, d_slot_2_2 hst hj⟩
          · skip
            exact ⟨0, (nI 0), by decide, c_slot_2_3 hst hj, d_slot_2_3 hst hj⟩
        · skip
          exact ⟨1, (nI 0), by decide, c_slot_2_b2 hst c1 c2, d_slot_2_b2 hst c1 c2⟩
      · skip
        exact ⟨1, (nI 0), by decide, c_slot_2_b1 hst c1, d_slot_2_b1 hst c1⟩
  · skip
    exact ⟨1, (nI 0), by decide, c_slot_b0 hst c0, d_slot_b0 hst c0⟩
theorem b_keeper {G : GE} (hst : (ge_l G).stackTraces = false) {x y : Nat} (p0 p1 : Int32) : ∃ (k : Nat) (v : Int32), k ≤ 1 ∧ CC G 4 4 24 my_X11_keeper x [.int p0, .int p1] E3 k v ∧ MM G 2 0 0 my_X12_keeper y [.int p0, .int p1] k v := by
  by_cases c0 : vp_in p0 9
  · by_cases c1 : vp_in p1 8
    · obtain ⟨i, hi, rfl⟩ := vp_in_of c0 (by decide)
      obtain ⟨j, hj, rfl⟩ := vp_in_of c1 (by decide)
      rcases (by omega : i = 0 ∨ i = 1 ∨ i = 2 ∨ i = 3 ∨ i = 4 ∨ i = 5 ∨ i = 6 ∨ i = 7 ∨ i = 8) with rfl | rfl | rfl | rfl | rfl | rfl | rfl | rfl | rfl
      · skip
        rcases (by omega : j = 0 ∨ j = 1 ∨ j = 2 ∨ j = 3 ∨ j = 4 ∨ j = 5 ∨ j = 6 ∨ j = 7) with rfl | rfl | rfl | rfl | rfl | rfl | rfl | rfl
        · skip
          exact ⟨0, (nI 2), by decide, c_keeper_0_0 hst, d_keeper_0_0 hst⟩
        · skip
          exact ⟨0, (nI 0), by decide, c_keeper_0_1 hst, d_keeper_0_1 hst⟩
        · skip
          exact ⟨0, (nI 0), by decide, c_keeper_0_2 hst, d_keeper_0_2 hst⟩
        · skip
          exact ⟨0, (nI 0), by decide, c_keeper_0_3 hst, d_keeper_0_3 hst⟩
        · skip
          exact ⟨0, ((-1)), by decide, c_keeper_0_4 hst, d_keeper_0_4 hst⟩
        · skip
          exact ⟨0, ((-1)), by decide, c_keeper_0_5 hst, d_keeper_0_5 hst⟩
        · skip
          exact ⟨0, (nI 0), by decide, c_keeper_0_6 hst, d_keeper_0_6 hst⟩
        · skip
          exact ⟨0, (nI 0), by decide, c_keeper_0_7 hst, d_keeper_0_7 hst⟩
      · skip
        rcases (by omega : j = 0 ∨ j = 1 ∨ j = 2 ∨ j = 3 ∨ j = 4 ∨ j = 5 ∨ j = 6 ∨ j = 7) with rfl | rfl | rfl | rfl | rfl | rfl | rfl | rfl
        · skip
          exact ⟨0, (nI 2), by decide, c_keeper_1_0 hst, d_keeper_1_0 hst⟩
        · skip
          exact ⟨0, (nI 0), by decide, c_keeper_1_1 hst, d_keeper_1_1 hst⟩
        · skip
          exact ⟨0, (nI 0), by decide, c_keeper_1_2 hst, d_keeper_1_2 hst⟩
        · skip
          exact ⟨0, (nI 0), by decide, c_keeper_1_3 hst, d_keeper_1_3 hst⟩
        · skip
          exact ⟨0, ((-1)), by decide, c_keeper_1_4 hst, d_keeper_1_4 hst⟩
        · skip
          exact ⟨0, ((-1)), by decide, c_keeper_1_5 hst, d_keeper_1_5 hst⟩
        · skip
          exact ⟨0, (nI 0), by decide, c_keeper_1_6 hst, d_keeper_1_6 hst⟩
        · skip
          exact ⟨0, (nI 0), by decide, c_keeper_1_7 hst, d_keeper_1_7 hst⟩
      · skip
        rcases (by omega : j = 0 ∨ j = 1 ∨ j = 2 ∨ j = 3 ∨ j = 4 ∨ j = 5 ∨ j = 6 ∨ j = 7) with rfl | rfl | rfl | rfl | rfl | rfl | rfl | rfl
        · skip
          exact ⟨0, (nI 2), by decide, c_keeper_2_0 hst, d_keeper_2_0 hst⟩
        · skip
          exact ⟨0, (nI 0), by decide, c_keeper_2_1 hst, d_keeper_2_1 hst⟩
        · skip
          exact ⟨0, (nI 0), by decide, c_keeper_2_2 hst, d_keeper_2_2 hst⟩
        · skip
          exact ⟨0, (nI 0), by decide, c_keeper_2_3 hst, d_keeper_2_3 hst⟩
        · skip
          exact ⟨0, ((-1)), by decide, c_keeper_2_4 hst, d_keeper_2_4 hst⟩
        · skip
          exact ⟨0, ((-1)), by decide, c_keeper_2_5 hst, d_keeper_2_5 hst⟩
        · skip
          exact ⟨0, (nI 0), by decide, c_keeper_2_6 hst, d_keeper_2_6 hst⟩
        · skip
          exact ⟨0, (nI 0), by decide, c_keeper_2_7 hst, d_keeper_2_7 hst⟩
      · skip
        rcases (by omega : j = 0 ∨ j = 1 ∨ j = 2 ∨ j = 3 ∨ j = 4 ∨ j = 5 ∨ j = 6 ∨ j = 7) with rfl | rfl | rfl | rfl | rfl | rfl | rfl | rfl
        · skip
          exact ⟨0, (nI 0), by decide, c_keeper_3_0 hst, d_keeper_3_0 hst⟩
        · skip
          exact ⟨0, ((-1)), by decide, c_keeper_3_1 hst, d_keeper_3_1 hst⟩
        · skip
          exact ⟨0, (nI 0), by decide, c_keeper_3_2 hst, d_keeper_3_2 hst⟩
        · skip
          exact ⟨0, (nI 0), by decide, c_keeper_3_3 hst, d_keeper_3_3 hst⟩
        · skip
          exact ⟨0, ((-1)), by decide, c_keeper_3_4 hst, d_keeper_3_4 hst⟩
        · skip
          exact ⟨0, ((-1)), by decide, c_keeper_3_5 hst, d_keeper_3_5 hst⟩
        · skip
          exact ⟨0, (nI 0), by decide, c_keeper_3_6 hst, d_keeper_3_6 hst⟩
        · skip
          exact ⟨0, (nI 0), by decide, c_keeper_3_7 hst, d_keeper_3_7 hst⟩
      · skip
        rcases (by omega : j = 0 ∨ j = 1 ∨ j = 2 ∨ j = 3 ∨ j = 4 ∨ j = 5 ∨ j = 6 ∨ j = 7) with rfl | rfl | rfl | rfl | rfl | rfl | rfl | rfl
        · skip
          exact ⟨0, (nI 0), by decide, c_keeper_4_0 hst, d_keeper_4_0 hst⟩
        · skip
          exact ⟨0, ((-1)), by decide, c_keeper_4_1 hst, d_keeper_4_1 hst⟩
        · skip
          exact ⟨0, (nI 0), by decide, c_keeper_4_2 hst, d_keeper_4_2 hst⟩
        · skip
          exact ⟨0, (nI 0), by decide, c_keeper_4_3 hst, d_keeper_4_3 hst⟩
        · skip
          exact ⟨0, ((-1)), by decide, c_keeper_4_4 hst, d_keeper_4_4 hst⟩
        · skip
          exact ⟨0, ((-1)), by decide, c_keeper_4_5 hst, d_keeper_4_5 hst⟩
        · skip
          exact ⟨0, (nI 0), by decide, c_keeper_4_6 hst, d_keeper_4_6 hst⟩
        · skip
          exact ⟨0, (nI 0), by decide, c_keeper_4_7 hst, d_keeper_4_7 hst⟩
      · skip
        rcases (by omega : j = 0 ∨ j = 1 ∨ j = 2 ∨ j = 3 ∨ j = 4 ∨ j = 5 ∨ j = 6 ∨ j = 7) with rfl | rfl | rfl | rfl | rfl | rfl | rfl | rfl
        · skip
          exact ⟨0, (nI 0), by decide, c_keeper_5_0 hst, d_keeper_5_0 hst⟩
        · skip
          exact ⟨0, ((-1)), by decide, c_keeper_5_1 hst, d_keeper_5_1 hst⟩
        · skip
          exact ⟨0, (nI 0), by decide, c_keeper_5_2 hst, d_keeper_5_2 hst⟩
        · skip
          exact ⟨0, (nI 0), by decide, c_keeper_5_3 hst, d_keeper_5_3 hst⟩
        · skip
          exact ⟨0, ((-1)), by decide, c_keeper_5_4 hst, d_keeper_5_4 hst⟩
        · skip
          exact ⟨0, ((-1)), by decide, c_keeper_5_5 hst, d_keeper_5_5 hst⟩
        · skip
          exact ⟨0, (nI 0), by decide, c_keeper_5_6 hst, d_keeper_5_6 hst⟩
        · skip
          exact ⟨0, (nI 0), by decide, c_keeper_5_7 hst, d_keeper_5_7 hst⟩
      · skip
        rcases (by omega : j = 0 ∨ j = 1 ∨ j = 2 ∨ j = 3 ∨ j = 4 ∨ j = 5 ∨ j = 6 ∨ j = 7) with rfl | rfl | rfl | rfl | rfl | rfl | rfl | rfl
        · skip
          exact ⟨0, (nI 0), by decide, c_keeper_6_0 hst, d_keeper_6_0 hst⟩
        · skip
          exact ⟨0, ((-1)), by decide, c_keeper_6_1 hst, d_keeper_6_1 hst⟩
        · skip
          exact ⟨0, (nI 0), by decide, c_keeper_6_2 hst, d_keeper_6_2 hst⟩
        · skip
          exact ⟨0, (nI 0), by decide, c_keeper_6_3 hst, d_keeper_6_3 hst⟩
        · skip
          exact ⟨0, ((-1)), by decide, c_keeper_6_4 hst, d_keeper_6_4 hst⟩
        · skip
          exact ⟨0, ((-1)), by decide, c_keeper_6_5 hst, d_keeper_6_5 hst⟩
        · skip
          exact ⟨0, (nI 0), by decide, c_keeper_6_6 hst, d_keeper_6_6 hst⟩
        · skip
          exact ⟨0, (nI 0), by decide, c_keeper_6_7 hst, d_keeper_6_7 hst⟩
      · skip
        rcases (by omega : j = 0 ∨ j = 1 ∨ j = 2 ∨ j = 3 ∨ j = 4 ∨ j = 5 ∨ j = 6 ∨ j = 7) with rfl | rfl | rfl | rfl | rfl | rfl | rfl | rfl
        · skip
          exact ⟨0, (nI 0), by decide, c_keeper_7_0 hst, d_keeper_7_0 hst⟩
        · skip
          exact ⟨0, ((-1)), by decide, c_keeper_7_1 hst, d_keeper_7_1 hst⟩
        · skip
          exact ⟨0, (nI 0), by decide, c_keeper_7_2 hst, d_keeper_7_2 hst⟩
        · skip
          exact ⟨0, (nI 0), by decide, c_keeper_7_3 hst, d_keeper_7_3 hst⟩
        · skip
          exact ⟨0, ((-1)), by decide, c_keeper_7_4 hst, d_keeper_7_4 hst⟩
        · skip
          exact ⟨0, ((-1)), by decide, c_keeper_7_5 hst, d_keeper_7_5 hst⟩
        · skip
          exact ⟨0, (nI 0), by decide, c_keeper_7_6 hst, d_keeper_7_6 hst⟩
        · skip
          exact ⟨0, (nI 0), by decide, c_keeper_7_7 hst, d_keeper_7_7 hst⟩
      · skip
        rcases (by omega : j = 0 ∨ j = 1 ∨ j = 2 ∨ j = 3 ∨ j = 4 ∨ j = 5 ∨ j = 6 ∨ j = 7) with rfl | rfl | rfl | rfl | rfl | rfl | rfl | rfl
        · skip
          exact ⟨0, (nI 0), by decide, c_keeper_8_0 hst, d_keeper_8_0 hst⟩
        · skip
          exact ⟨0, ((-1)), by decide, c_keeper_8_1 hst, d_keeper_8_1 hst⟩
        · skip
          exact ⟨0, (nI 0), by decide, c_keeper_8_2 hst, d_keeper_8_2 hst⟩
        · skip
          exact ⟨0, (nI 0), by decide, c_keeper_8_3 hst, d_keeper_8_3 hst⟩
        · skip
          exact ⟨0, ((-1)), by decide, c_keeper_8_4 hst, d_keeper_8_4 hst⟩
        · skip
          exact ⟨0, ((-1)), by decide, c_keeper_8_5 hst, d_keeper_8_5 hst⟩
        · skip
          exact ⟨0, (nI 0), by decide, c_keeper_8_6 hst, d_keeper_8_6 hst⟩
        · skip
          exact ⟨0, (nI 0), by decide, c_keeper_8_7 hst, d_keeper_8_7 hst⟩
    · skip
      exact ⟨1, (nI 0), by decide, c_keeper_b1 hst (p2 := 0) c0 c1, d_keeper_b1 hst (p2 := 0) c0 c1⟩
  · skip
    exact ⟨1, (nI 0), by decide, c_keeper_b0 hst (p2 := 0) c0, d_keeper_b0 hst (p2 := 0) c0⟩
theorem b_entry {G : GE} (hst : (ge_l G).stackTraces = false) {x y : Nat} (p0 p1 p2 : Int32) (hb : p2 = nI 0 ∨ p2 = nI 1) : ∃ (k : Nat) (v : Int32), k = 1 ∧ CC G 3 4 24 my_X11_entry x [.int p0, .int p1, .int p2] E3 k v ∧ MM G 2 0 0 my_X12_entry y [.int p0, .int p1, .int p2] k v := by
  by_cases c0 : vp_in p0 9
  · obtain ⟨i, hi, rfl⟩ := vp_in_of c0 (by decide)
    rcases (by omega : i = 0 ∨ i = 1 ∨ i = 2 ∨ i = 3 ∨ i = 4 ∨ i = 5 ∨ i = 6 ∨ i = 7 ∨ i = 8) with rfl | rfl | rfl | rfl | rfl | rfl | rfl | rfl | rfl
    · skip
      exact ⟨1, (nI 0), by decide, c_entry_0 hst, d_entry_0 hst⟩
    · skip
      exact ⟨1, (nI 0), by decide, c_entry_1 hst, d_entry_1 hst⟩
    · skip
      exact ⟨1, (nI 0), by decide, c_entry_2 hst, d_entry_2 hst⟩
    · skip
      exact ⟨1, (nI 0), by decide, c_entry_3 hst, d_entry_3 hst⟩
    · skip
      exact ⟨1, (nI 0), by decide, c_entry_4 hst, d_entry_4 hst⟩
    · skip
      exact ⟨1, (nI 0), by decide, c_entry_5 hst, d_entry_5 hst⟩
    · skip
      exact ⟨1, (nI 0), by decide, c_entry_6 hst, d_entry_6 hst⟩
    · skip
      exact ⟨1, (nI 0), by decide, c_entry_7 hst, d_entry_7 hst⟩
    · skip
      exact ⟨1, (nI 0), by decide, c_entry_8 hst, d_entry_8 hst⟩
  · skip
    exact ⟨1, (nI 0), by decide, c_entry_b0 hst c0, d_entry_b0 hst c0⟩
theorem b_voter {G : GE} (hst : (ge_l G).stackTraces = false) {x y : Nat} (p0 p1 : Int32) : ∃ (k : Nat) (v : Int32), k ≤ 1 ∧ CC G 3 4 24 my_X11_voter x [.int p0, .int p1] E3 k v ∧ MM G 2 0 0 my_X12_voter y [.int p0, .int p1] k v := by
  by_cases c0 : vp_in p0 12
  · by_cases c1 : vp_in p1 3
    · obtain ⟨i, hi, rfl⟩ := vp_in_of c0 (by decide)
      obtain ⟨j, hj, rfl⟩ := vp_in_of c1 (by decide)
      rcases (by omega : i = 0 ∨ i = 1 ∨ i = 2 ∨ i = 3 ∨ i = 4 ∨ i = 5 ∨ i = 6 ∨ i = 7 ∨ i = 8 ∨ i = 9 ∨ i = 10 ∨ i = 11) with rfl | rfl | rfl | rfl | rfl | rfl | rfl | rfl | rfl | rfl | rfl | rfl
      · skip
        rcases (by omega : j = 0 ∨ j = 1 ∨ j = 2) with rfl | rfl | rfl
        · skip
          exact ⟨0, ((-1)), by decide, c_voter_0_0 hst, d_voter_0_0 hst⟩
        · skip
          exact ⟨0, (nI 0), by decide, c_voter_0_1 hst, d_voter_0_1 hst⟩
        · skip
          exact ⟨0, (nI 0), by decide, c_voter_0_2 hst, d_voter_0_2 hst⟩
      · skip
        rcases (by omega : j = 0 ∨ j = 1 ∨ j = 2) with rfl | rfl | rfl
        · skip
          exact ⟨0, ((-1)), by decide, c_voter_1_0 hst, d_voter_1_0 hst⟩
        · skip
          exact ⟨0, (nI 0), by decide, c_voter_1_1 hst, d_voter_1_1 hst⟩
        · skip
          exact ⟨0, (nI 0), by decide, c_voter_1_2 hst, d_voter_1_2 hst⟩
      · skip
        rcases (by omega : j = 0 ∨ j = 1 ∨ j = 2) with rfl | rfl | rfl
        · skip
          exact ⟨0, ((-1)), by decide, c_voter_2_0 hst, d_voter_2_0 hst⟩
        · skip
          exact ⟨0, (nI 0), by decide, c_voter_2_1 hst, d_voter_2_1 hst⟩
        · skip
          exact ⟨0, (nI 0), by decide, c_voter_2_2 hst, d_voter_2_2 hst⟩
      · skip
        rcases (by omega : j = 0 ∨ j = 1 ∨ j = 2) with rfl | rfl | rfl
        · skip
          exact ⟨0, ((-1)), by decide, c_voter_3_0 hst, d_voter_3_0 hst⟩
        · skip
          exact ⟨0, (nI 0), by decide, c_voter_3_1 hst, d_voter_3_1 hst⟩
        · skip
          exact ⟨0, (nI 0), by decide, c_voter_3_2 hst, d_voter_3_2 hst⟩
      · skip
        rcases (by omega : j = 0 ∨ j = 1 ∨ j = 2) with rfl | rfl | rfl
        · skip
          exact ⟨0, ((-1)), by decide, c_voter_4_0 hst, d_voter_4_0 hst⟩
        · skip
          exact ⟨0, (nI 0), by decide, c_voter_4_1 hst, d_voter_4_1 hst⟩
        · skip
          exact ⟨0, (nI 0), by decide, c_voter_4_2 hst, d_voter_4_2 hst⟩
      · skip
        rcases (by omega : j = 0 ∨ j = 1 ∨ j = 2) with rfl | rfl | rfl
        · skip
          exact ⟨0, ((-1)), by decide, c_voter_5_0 hst, d_voter_5_0 hst⟩
        · skip
          exact ⟨0, (nI 0), by decide, c_voter_5_1 hst, d_voter_5_1 hst⟩
        · skip
          exact ⟨0, (nI 0), by decide, c_voter_5_2 hst, d_voter_5_2 hst⟩
      · skip
        rcases (by omega : j = 0 ∨ j = 1 ∨ j = 2) with rfl | rfl | rfl
        · skip
          exact ⟨0, ((-1)), by decide, c_voter_6_0 hst, d_voter_6_0 hst⟩
        · skip
          exact ⟨0, (nI 0), by decide, c_voter_6_1 hst, d_voter_6_1 hst⟩
        · skip
          exact ⟨0, (nI 0), by decide, c_voter_6_2 hst, d_voter_6_2 hst⟩
      · skip
        rcases (by omega : j = 0 ∨ j = 1 ∨ j = 2) with rfl | rfl | rfl
        · skip
          exact ⟨0, ((-1)), by decide, c_voter_7_0 hst, d_voter_7_0 hst⟩
        · skip
          exact ⟨0, (nI 0), by decide, c_voter_7_1 hst, d_voter_7_1 hst⟩
        · skip
          exact ⟨0, (nI 0), by decide, c_voter_7_2 hst, d_voter_7_2 hst⟩
      · skip
        rcases (by omega : j = 0 ∨ j = 1 ∨ j = 2) with rfl | rfl | rfl
        · skip
          exact ⟨0, ((-1)), by decide, c_voter_8_0 hst, d_voter_8_0 hst⟩
        · skip
          exact ⟨0, (nI 0), by decide, c_voter_8_1 hst, d_voter_8_1 hst⟩
        · skip
          exact ⟨0, (nI 0), by decide, c_voter_8_2 hst, d_voter_8_2 hst⟩
      · skip
        rcases (by omega : j = 0 ∨ j = 1 ∨ j = 2) with rfl | rfl | rfl
        · skip
          exact ⟨0, ((-1)), by decide, c_voter_9_0 hst, d_voter_9_0 hst⟩
        · skip
          exact ⟨0, (nI 0), by decide, c_voter_9_1 hst, d_voter_9_1 hst⟩
        · skip
          exact ⟨0, (nI 0), by decide, c_voter_9_2 hst, d_voter_9_2 hst⟩
      · skip
        rcases (by omega : j = 0 ∨ j = 1 ∨ j = 2) with rfl | rfl | rfl
        · skip
          exact ⟨0, ((-1)), by decide, c_voter_10_0 hst, d_voter_10_0 hst⟩
        · skip
          exact ⟨0, (nI 0), by decide, c_voter_10_1 hst, d_voter_10_1 hst⟩
        · skip
          exact ⟨0, (nI 0), by decide, c_voter_10_2 hst, d_voter_10_2 hst⟩
      · skip
        rcases (by omega : j = 0 ∨ j = 1 ∨ j = 2) with rfl | rfl | rfl
        · skip
          exact ⟨0, ((-1)), by decide, c_voter_11_0 hst, d_voter_11_0 hst⟩
        · skip
          exact ⟨0, (nI 0), by decide, c_voter_11_1 hst, d_voter_11_1 hst⟩
        · skip
          exact ⟨0, (nI 0), by decide, c_voter_11_2 hst, d_voter_11_2 hst⟩
    · skip
      exact ⟨1, (nI 0), by decide, c_voter_b1 hst (p2 := 0) c0 c1, d_voter_b1 hst (p2 := 0) c0 c1⟩
  · skip
    exact ⟨1, (nI 0), by decide, c_voter_b0 hst (p2 := 0) c0, d_voter_b0 hst (p2 := 0) c0⟩
theorem b_vote {G : GE} (hst : (ge_l G).stackTraces = false) {x y : Nat} (p0 p1 p2 : Int32) (hb : p2 = nI 0 ∨ p2 = nI 1) : ∃ (k : Nat) (v : Int32), k ≤ 1 ∧ CC G 2 4 24 my_X11_vote x [.int p0, .int p1, .int p2] E3 k v ∧ MM G 2 0 0 my_X12_vote y [.int p0, .int p1, .int p2] k v := by
  by_cases c0 : vp_in p0 12
  · by_cases c1 : vp_in p1 16
    · obtain ⟨i, hi, rfl⟩ := vp_in_of c0 (by decide)
      obtain ⟨j, hj, rfl⟩ := vp_in_of c1 (by decide)
      rcases hb with rfl | rfl
      · skip
        rcases (by omega : i = 0 ∨ i = 1 ∨ i = 2 ∨ i = 3 ∨ i = 4 ∨ i = 5 ∨ i = 6 ∨ i = 7 ∨ i = 8 ∨ i = 9 ∨ i = 10 ∨ i = 11) with rfl | rfl | rfl | rfl | rfl | rfl | rfl | rfl | rfl | rfl | rfl | rfl
        · skip
          exact ⟨0, ((-1)), by decide, c_vote_0_0 hst hj, d_vote_0_0 hst hj⟩
        · skip
          exact ⟨0, ((-1)), by decide, c_vote_1_0 hst hj, d_vote_1_0 hst hj⟩
        · skip
          exact ⟨0, ((-1)), by decide, c_vote_2_0 hst hj, d_vote_2_0 hst hj⟩
        · skip
          exact ⟨0, ((-1)), by decide, c_vote_3_0 hst hj, d_vote_3_0 hst hj⟩
        · skip
          exact ⟨0, ((-1)), by decide, c_vote_4_0 hst hj, d_vote_4_0 hst hj⟩
        · skip
          exact ⟨0, ((-1)), by decide, c_vote_5_0 hst hj, d_vote_5_0 hst hj⟩
        · skip
          exact ⟨0, ((-1)), by decide, c_vote_6_0 hst hj, d_vote_6_0 hst hj⟩
        · skip
          exact ⟨0, ((-1)), by decide, c_vote_7_0 hst hj, d_vote_7_0 hst hj⟩
        · skip
          exact ⟨0, ((-1)), by decide, c_vote_8_0 hst hj, d_vote_8_0 hst hj⟩
        · skip
          exact ⟨0, ((-1)), by decide, c_vote_9_0 hst hj, d_vote_9_0 hst hj⟩
        · skip
          exact ⟨0, ((-1)), by decide, c_vote_10_0 hst hj, d_vote_10_0 hst hj⟩
        · skip
          exact ⟨0, ((-1)), by decide, c_vote_11_0 hst hj, d_vote_11_0 hst hj⟩
      · skip
        rcases (by omega : i = 0 ∨ i = 1 ∨ i = 2 ∨ i = 3 ∨ i = 4 ∨ i = 5 ∨ i = 6 ∨ i = 7 ∨ i = 8 ∨ i = 9 ∨ i = 10 ∨ i = 11) with rfl | rfl | rfl | rfl | rfl | rfl | rfl | rfl | rfl | rfl | rfl | rfl
        · skip
          exact ⟨0, ((-1)), by decide, c_vote_0_1 hst hj, d_vote_0_1 hst hj⟩
        · skip
          exact ⟨0, ((-1)), by decide, c_vote_1_1 hst hj, d_vote_1_1 hst hj⟩
        · skip
          exact ⟨0, ((-1)), by decide, c_vote_2_1 hst hj, d_vote_2_1 hst hj⟩
        · skip
          exact ⟨0, ((-1)), by decide, c_vote_3_1 hst hj, d_vote_3_1 hst hj⟩
        · skip
          exact ⟨0, ((-1)), by decide, c_vote_4_1 hst hj, d_vote_4_1 hst hj⟩
        · skip
          exact ⟨0, ((-1)), by decide, c_vote_5_1 hst hj, d_vote_5_1 hst hj⟩
        · skip
          exact ⟨0, ((-1)), by decide, c_vote_6_1 hst hj, d_vote_6_1 hst hj⟩
        · skip
          exact ⟨0, ((-1)), by decide, c_vote_7_1 hst hj, d_vote_7_1 hst hj⟩
        · skip
          exact ⟨0, ((-1)), by decide, c_vote_8_1 hst hj, d_vote_8_1 hst hj⟩
        · skip
          exact ⟨0, ((-1)), by decide, c_vote_9_1 hst hj, d_vote_9_1 hst hj⟩
        · skip
          exact ⟨0, ((-1)), by decide, c_vote_10_1 hst hj, d_vote_10_1 hst hj⟩
        · skip
          exact ⟨0, ((-1)), by decide, c_vote_11_1 hst hj, d_vote_11_1 hst hj⟩
    · skip
      exact ⟨1, (nI 0), by decide, c_vote_b1 hst c0 c1, d_vote_b1 hst c0 c1⟩
  · skip
    exact ⟨1, (nI 0), by decide, c_vote_b0 hst c0, d_vote_b0 hst c0⟩
theorem b_copy {G : GE} (hst : (ge_l G).stackTraces = false) {x y : Nat} (p0 p1 : Int32) : ∃ (k : Nat) (v : Int32), k ≤ 1 ∧ CC G 2 4 24 my_X11_copy x [.int p0, .int p1] E3 k v ∧ MM G 2 0 0 my_X12_copy y [.int p0, .int p1] k v := by
  by_cases c0 : vp_in p0 3
  · by_cases c1 : vp_in p1 16
    · obtain ⟨i, hi, rfl⟩ := vp_in_of c0 (by decide)
      obtain ⟨j, hj, rfl⟩ := vp_in_of c1 (by decide)
      rcases (by omega : i = 0 ∨ i = 1 ∨ i = 2) with rfl | rfl | rfl
      · skip
        exact ⟨0, ((-1)), by decide, c_copy_0 hst hj, d_copy_0 hst hj⟩
      · skip
        exact ⟨0, ((-1)), by decide, c_copy_1 hst hj, d_copy_1 hst hj⟩
      · skip
        exact ⟨0, ((-1)), by decide, c_copy_2 hst hj, d_copy_2 hst hj⟩
    · skip
      exact ⟨1, (nI 0), by decide, c_copy_b1 hst (p2 := 0) c0 c1, d_copy_b1 hst (p2 := 0) c0 c1⟩
  · skip
    exact ⟨1, (nI 0), by decide, c_copy_b0 hst (p2 := 0) c0, d_copy_b0 hst (p2 := 0) c0⟩
theorem b_agreed {G : GE} (hst : (ge_l G).stackTraces = false) {x y : Nat} (p0 : Int32) : ∃ (k : Nat) (v : Int32), k ≤ 1 ∧ CC G 2 4 24 my_X11_agreed x [.int p0] E3 k v ∧ MM G 2 0 0 my_X12_agreed y [.int p0] k v := by
  by_cases c0 : vp_in p0 16
  · obtain ⟨j, hj, rfl⟩ := vp_in_of c0 (by decide)
    exact ⟨0, ((-1)), by decide, c_agreed_k hst hj, d_agreed_k hst hj⟩
  · skip
    exact ⟨1, (nI 0), by decide, c_agreed_b0 hst c0, d_agreed_b0 hst (p1 := 0) (p2 := 0) c0⟩
theorem b_count {G : GE} (hst : (ge_l G).stackTraces = false) {x y : Nat} (p0 : Int32) : ∃ (k : Nat) (v : Int32), k ≤ 1 ∧ CC G 2 4 24 my_X11_count x [.int p0] E3 k v ∧ MM G 2 0 0 my_X12_count y [.int p0] k v := by
  by_cases c0 : vp_in p0 6
  · obtain ⟨j, hj, rfl⟩ := vp_in_of c0 (by decide)
    rcases (by omega : j = 0 ∨ j = 1 ∨ j = 2 ∨ j = 3 ∨ j = 4 ∨ j = 5) with rfl | rfl | rfl | rfl | rfl | rfl
    · skip
      exact ⟨0, (nI 0), by decide, c_count_0 hst, d_count_0 hst⟩
    · skip
      exact ⟨0, (nI 0), by decide, c_count_1 hst, d_count_1 hst⟩
    · skip
      exact ⟨0, (nI 0), by decide, c_count_2 hst, d_count_2 hst⟩
    · skip
      exact ⟨0, (nI 0), by decide, c_count_3 hst, d_count_3 hst⟩
    · skip
      exact ⟨0, (nI 0), by decide, c_count_4 hst, d_count_4 hst⟩
    · skip
      exact ⟨0, (nI 0), by decide, c_count_5 hst, d_count_5 hst⟩
  · skip
    exact ⟨1, (nI 0), by decide, c_count_b0 hst c0, d_count_b0 hst (p1 := 0) (p2 := 0) c0⟩
