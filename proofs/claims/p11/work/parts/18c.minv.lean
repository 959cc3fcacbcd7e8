/-! ===== what every state of the model keeps ===== -/
def vb (v : Int32) (n : Nat) : Prop := n = 0 ∨ vp_in v n
/-- rows whose elements have a bound: (offset, length, bound) -/
def BMt : List (Nat × Nat × Nat) := [(6, 3, 512), (8, 3, 300), (11, 3, 17), (14, 3, 17), (15, 3, 17), (21, 3, 17), (27, 3, 512), (30, 3, 300), (33, 3, 512), (36, 9, 512), (37, 9, 300), (41, 9, 512), (42, 9, 512), (44, 12, 17), (48, 400, 402)]
/-- bounds by kind: to, from, a, b, c, the second pick, how many (0: none) -/
def kb (κ : Nat) : Nat × Nat × Nat × Nat × Nat × Nat × Nat := match κ with
  | 1 => (9, 3, 0, 300, 0, 0, 301)
  | 2 => (3, 0, 0, 0, 300, 0, 301)
  | 3 => (12, 3, 0, 0, 0, 0, 301)
  | 4 => (3, 0, 0, 17, 0, 0, 17)
  | 5 => (12, 3, 300, 16, 0, 0, 301)
  | 6 => (3, 0, 0, 16, 0, 0, 301)
  | 7 => (3, 3, 16, 0, 0, 0, 301)
  | 8 => (3, 0, 16, 0, 0, 0, 301)
  | 9 => (12, 3, 0, 17, 0, 0, 301)
  | 11 => (9, 3, 0, 300, 0, 0, 301)
  | 13 => (12, 3, 0, 0, 0, 0, 301)
  | 16 => (9, 3, 0, 0, 0, 0, 301)
  | 17 => (3, 0, 0, 0, 300, 512, 301)
  | 18 => (9, 3, 0, 512, 300, 0, 301)
  | 20 => (9, 3, 0, 0, 512, 0, 301)
  | 22 => (9, 3, 0, 512, 0, 0, 301)
  | 23 => (3, 0, 0, 512, 0, 0, 301)
  | _ => (3, 0, 0, 0, 0, 0, 301)
/-- message j keeps the bounds of its kind -/
def MK (y : Nat) (g : GT) (j κ m : Nat) : Prop := (gx_A g (y + 50) j = nI κ) ∧ (vb (gx_A g (y + 52) j) (kb κ).1) ∧ (vb (gx_A g (y + 51) j) (kb κ).2.1) ∧ (vb (gx_A g (y + 53) (3 * j)) (kb κ).2.2.1) ∧ (vb (gx_A g (y + 53) (3 * j + 1)) (kb κ).2.2.2.1) ∧ (vb (gx_A g (y + 53) (3 * j + 2)) (kb κ).2.2.2.2.1) ∧ (vb (gx_A g (y + 55) (2 * j + 1)) (kb κ).2.2.2.2.2.1) ∧ (m < (kb κ).2.2.2.2.2.2) ∧ (gx_A g (y + 54) j = nI m) ∧ (κ = 2 ∨ κ = 17 ∨ κ = 18 → ∀ i, i < m → vp_in (gx_A g (y + 56) (600 * j + 2 * i)) 300) ∧ (κ = 4 → ∀ i, i < m → vp_in (gx_A g (y + 56) (600 * j + 3 * i)) 16)
def MTY (y : Nat) (g : GT) (j : Nat) : Prop := ∃ κ m, κ < 25 ∧ MK y g j κ m
def RM (y a : Nat) : Prop := y ≤ a ∧ a < y + 60
def KFm (y : Nat) (g g1 : GT) : Prop := ∀ b, ¬ RM y b → gx_K g1 b = gx_K g b ∧ gx_N g1 b = gx_N g b ∧ (∀ f, gx_I g1 f b = gx_I g f b) ∧ (∀ f, gx_R g1 f b = gx_R g f b) ∧ (∀ j, gx_A g1 b j = gx_A g b j) ∧ (∀ j, gx_L g1 b j = gx_L g b j) ∧ (∀ j, gx_O g1 b j = gx_O g b j)
theorem KFm.refl {x : Nat} {g : GT} : KFm x g g := fun _ _ => ⟨rfl, rfl, fun _ => rfl, fun _ => rfl, fun _ => rfl, fun _ => rfl, fun _ => rfl⟩
theorem KFm.trans {x : Nat} {g g1 g2 : GT} (a : KFm x g g1) (c : KFm x g1 g2) : KFm x g g2 := fun b hb => by
  obtain ⟨a1, a2, a3, a4, a5, a6, a7⟩ := a b hb
  obtain ⟨c1, c2, c3, c4, c5, c6, c7⟩ := c b hb
  exact ⟨c1.trans a1, c2.trans a2, fun f => (c3 f).trans (a3 f), fun f => (c4 f).trans (a4 f), fun f => (c5 f).trans (a5 f), fun f => (c6 f).trans (a6 f), fun f => (c7 f).trans (a7 f)⟩
theorem KFm_A {x a j : Nat} {g : GT} {v : Int32} (h : RM x a) : KFm x g (px_A g a j v) := fun b hb => have hn : b ≠ a := fun e => hb (e ▸ h); ⟨rfl, rfl, fun _ => rfl, fun _ => rfl, fun _ => if_neg (fun k => hn k.1), fun _ => rfl, fun _ => rfl⟩
theorem KFm_I {x f a : Nat} {g : GT} {v : Int32} (h : RM x a) : KFm x g (px_I g f a v) := fun b hb => have hn : b ≠ a := fun e => hb (e ▸ h); ⟨rfl, rfl, fun _ => if_neg (fun k => hn k.2), fun _ => rfl, fun _ => rfl, fun _ => rfl, fun _ => rfl⟩
/-- the state of the model. D: who is down, and what lies outside; C: places that are used though no message of the order lies there; E: messages that are being made; R: leaders whose round is one; P: places of the order -/
def MC (y : Nat) (D : UT) (C E R P : Nat → Prop) (g : GT) : Prop := (sh T12 g y) ∧ (∀ q ∈ BMt, ∀ i, i < q.2.1 → vp_in (gx_A g (y + q.1) i) q.2.2) ∧ (∀ l, l < 3 → gx_A g (y + 2) l ≠ 0 ∨ R l → vp_in (gx_A g (y + 3) l) 300) ∧ (∀ j, j < 402 → ¬ E j → MTY y g j) ∧ (∀ i, i < 27 → gx_A g (y + 1) i = D.1 i) ∧ (∀ j, j < 402 → gx_A g (y + 49) j ≠ 0 → C j ∨ ∃ p, P p ∧ p < 400 ∧ gx_A g (y + 48) p = nI j) ∧ (KFm y D.2 g)
theorem pxA_n {g : GT} {y o c i j : Nat} {v : Int32} (h : c ≠ o) : gx_A (px_A g (y + o) i v) (y + c) j = gx_A g (y + c) j := if_neg (fun k => h (Nat.add_left_cancel k.1))
theorem pxA_i {g : GT} {a i j : Nat} {v : Int32} (h : j ≠ i) : gx_A (px_A g a i v) a j = gx_A g a j := if_neg (fun k => h k.2)
theorem pxA_e {g : GT} {a i : Nat} {v : Int32} : gx_A (px_A g a i v) a i = v := if_pos ⟨rfl, rfl⟩
theorem MK_q {y : Nat} {g g1 : GT} {j κ m : Nat} (h : MK y g j κ m) (e : ∀ c, 50 ≤ c → c < 57 → ∀ i, gx_A g1 (y + c) i = gx_A g (y + c) i) : MK y g1 j κ m := by
  obtain ⟨h1, h2, h3, h4, h5, h6, h7, h8, h9, h10, h11⟩ := h
  have e0 := e 50 (by decide) (by decide)
  have e1 := e 51 (by decide) (by decide)
  have e2 := e 52 (by decide) (by decide)
  have e3 := e 53 (by decide) (by decide)
  have e4 := e 54 (by decide) (by decide)
  have e5 := e 55 (by decide) (by decide)
  have e6 := e 56 (by decide) (by decide)
  exact ⟨by rw [e0]; exact h1, by rw [e2]; exact h2, by rw [e1]; exact h3, by rw [e3]; exact h4, by rw [e3]; exact h5, by rw [e3]; exact h6, by rw [e5]; exact h7, h8, by rw [e4]; exact h9, fun k i hi => by rw [e6]; exact h10 k i hi, fun k i hi => by rw [e6]; exact h11 k i hi⟩
/-- a row of which nothing is wanted -/
theorem MC_A {y : Nat} {D : UT} {C E R P : Nat → Prop} {g : GT} {o i : Nat} {v : Int32} (h : MC y D C E R P g) (ho : ([1, 2, 3, 6, 8, 11, 14, 15, 21, 27, 30, 33, 36, 37, 41, 42, 44, 48, 49, 50, 51, 52, 53, 54, 55, 56].contains o) = false) (hl : o < 60) : MC y D C E R P (px_A g (y + o) i v) := by
  have hn : ∀ c, [1, 2, 3, 6, 8, 11, 14, 15, 21, 27, 30, 33, 36, 37, 41, 42, 44, 48, 49, 50, 51, 52, 53, 54, 55, 56].contains c = true → ∀ j, gx_A (px_A g (y + o) i v) (y + c) j = gx_A g (y + c) j := fun c hc j => pxA_n (fun k => by
    rw [← k, hc] at ho
    cases ho)
  obtain ⟨h1, h2, h3, h4, h5, h6, h7⟩ := h
  refine ⟨shq (sqA sq0) h1, fun q hq j hj => ?_, fun l hl k => ?_, fun j hj k => ?_, fun j hj => ?_, fun j hj k => ?_, h7.trans (KFm_A ⟨by omega, by omega⟩)⟩
  · rw [hn q.1 (List.all_eq_true.mp (show BMt.all (fun q => [1, 2, 3, 6, 8, 11, 14, 15, 21, 27, 30, 33, 36, 37, 41, 42, 44, 48, 49, 50, 51, 52, 53, 54, 55, 56].contains q.1) = true by decide) q hq)]; exact h2 q hq j hj
  · rw [hn 2 (by decide)] at k
    rw [hn 3 (by decide)]
    exact h3 l hl k
  · obtain ⟨κ, m, hk, hm⟩ := h4 j hj k
    exact ⟨κ, m, hk, MK_q hm (fun c c1 c2 => hn c (by
      rcases (by omega : c = 50 ∨ c = 51 ∨ c = 52 ∨ c = 53 ∨ c = 54 ∨ c = 55 ∨ c = 56) with rfl | rfl | rfl | rfl | rfl | rfl | rfl <;> decide))⟩
  · rw [hn 1 (by decide)]; exact h5 j hj
  · rw [hn 49 (by decide)] at k
    rcases h6 j hj k with c | ⟨p, p1, p2, p3⟩
    · exact Or.inl c
    · exact Or.inr ⟨p, p1, p2, by rw [hn 48 (by decide)]; exact p3⟩
/-- a row with a bound (all but the order) -/
theorem MC_B {y : Nat} {D : UT} {C E R P : Nat → Prop} {g : GT} {o i B : Nat} {v : Int32} (h : MC y D C E R P g) (ho : (BMt.all (fun q => q.1 != o || q.2.2 == B)) = true) (hl : o < 48) (hs : o ≠ 1 ∧ o ≠ 2 ∧ o ≠ 3) (hv : vp_in v B) : MC y D C E R P (px_A g (y + o) i v) := by
  have hn : ∀ c, c ≠ o → ∀ j, gx_A (px_A g (y + o) i v) (y + c) j = gx_A g (y + c) j := fun c hc j => pxA_n hc
  obtain ⟨h1, h2, h3, h4, h5, h6, h7⟩ := h
  refine ⟨shq (sqA sq0) h1, fun q hq j hj => ?_, fun l hl k => ?_, fun j hj k => ?_, fun j hj => ?_, fun j hj k => ?_, h7.trans (KFm_A ⟨by omega, by omega⟩)⟩
  · by_cases e : q.1 = o
    · have hb : q.2.2 = B := by
        have := List.all_eq_true.mp ho q hq
        simpa [e] using this
      rw [e, pxA_A]
      by_cases e2 : j = i
      · rw [if_pos e2, hb]; exact hv
      · rw [if_neg e2, ← e]; exact h2 q hq j hj
    · rw [hn q.1 e]; exact h2 q hq j hj
  · rw [hn 2 (by omega)] at k
    rw [hn 3 (by omega)]
    exact h3 l hl k
  · obtain ⟨κ, m, hk, hm⟩ := h4 j hj k
    exact ⟨κ, m, hk, MK_q hm (fun c c1 c2 => hn c (by omega))⟩
  · rw [hn 1 (by omega)]; exact h5 j hj
  · rw [hn 49 (by omega)] at k
    rcases h6 j hj k with c | ⟨p, p1, p2, p3⟩
    · exact Or.inl c
    · exact Or.inr ⟨p, p1, p2, by rw [hn 48 (by omega)]; exact p3⟩
/-- phase -/
theorem MC_ph {y : Nat} {D : UT} {C E R P : Nat → Prop} {g : GT} {i : Nat} {v : Int32} (h : MC y D C E R P g) (hv : i < 3 → v ≠ 0 → vp_in (gx_A g (y + 3) i) 300) : MC y D C E R P (px_A g (y + 2) i v) := by
  have hn : ∀ c, c ≠ 2 → ∀ j, gx_A (px_A g (y + 2) i v) (y + c) j = gx_A g (y + c) j := fun c hc j => pxA_n hc
  obtain ⟨h1, h2, h3, h4, h5, h6, h7⟩ := h
  refine ⟨shq (sqA sq0) h1, fun q hq j hj => ?_, fun l hl k => ?_, fun j hj k => ?_, fun j hj => ?_, fun j hj k => ?_, h7.trans (KFm_A ⟨by omega, by omega⟩)⟩
  · rw [hn q.1 (of_decide_eq_true (List.all_eq_true.mp (show BMt.all (fun q => decide (q.1 ≠ 2)) = true by decide) q hq))]; exact h2 q hq j hj
  · rw [hn 3 (by decide)]
    rw [pxA_A] at k
    by_cases e : l = i
    · rw [if_pos e] at k
      rcases k with k | k
      · rw [e]; exact hv (e ▸ hl) k
      · exact h3 l hl (Or.inr k)
    · rw [if_neg e] at k
      exact h3 l hl k
  · obtain ⟨κ, m, hk, hm⟩ := h4 j hj k
    exact ⟨κ, m, hk, MK_q hm (fun c c1 c2 => hn c (by omega))⟩
  · rw [hn 1 (by decide)]; exact h5 j hj
  · rw [hn 49 (by decide)] at k
    rcases h6 j hj k with c | ⟨p, p1, p2, p3⟩
    · exact Or.inl c
    · exact Or.inr ⟨p, p1, p2, by rw [hn 48 (by decide)]; exact p3⟩
/-- round -/
theorem MC_rd {y : Nat} {D : UT} {C E R P : Nat → Prop} {g : GT} {i : Nat} {v : Int32} (h : MC y D C E R P g) (hv : i < 3 → gx_A g (y + 2) i ≠ 0 ∨ R i → vp_in v 300) : MC y D C E R P (px_A g (y + 3) i v) := by
  have hn : ∀ c, c ≠ 3 → ∀ j, gx_A (px_A g (y + 3) i v) (y + c) j = gx_A g (y + c) j := fun c hc j => pxA_n hc
  obtain ⟨h1, h2, h3, h4, h5, h6, h7⟩ := h
  refine ⟨shq (sqA sq0) h1, fun q hq j hj => ?_, fun l hl k => ?_, fun j hj k => ?_, fun j hj => ?_, fun j hj k => ?_, h7.trans (KFm_A ⟨by omega, by omega⟩)⟩
  · rw [hn q.1 (of_decide_eq_true (List.all_eq_true.mp (show BMt.all (fun q => decide (q.1 ≠ 3)) = true by decide) q hq))]; exact h2 q hq j hj
  · rw [hn 2 (by decide)] at k
    rw [pxA_A]
    by_cases e : l = i
    · rw [if_pos e]; exact hv (e ▸ hl) (e ▸ k)
    · rw [if_neg e]; exact h3 l hl k
  · obtain ⟨κ, m, hk, hm⟩ := h4 j hj k
    exact ⟨κ, m, hk, MK_q hm (fun c c1 c2 => hn c (by omega))⟩
  · rw [hn 1 (by decide)]; exact h5 j hj
  · rw [hn 49 (by decide)] at k
    rcases h6 j hj k with c | ⟨p, p1, p2, p3⟩
    · exact Or.inl c
    · exact Or.inr ⟨p, p1, p2, by rw [hn 48 (by decide)]; exact p3⟩
/-- numbers of the model -/
theorem MC_I {y : Nat} {D : UT} {C E R P : Nat → Prop} {g : GT} {f : Nat} {v : Int32} (h : MC y D C E R P g) : MC y D C E R P (px_I g f y v) := by
  obtain ⟨h1, h2, h3, h4, h5, h6, h7⟩ := h
  exact ⟨shq (sqI sq0) h1, h2, h3, fun j hj k => by
    obtain ⟨κ, m, hk, hm⟩ := h4 j hj k
    exact ⟨κ, m, hk, MK_q hm (fun _ _ _ _ => rfl)⟩, h5, h6, h7.trans (KFm_I ⟨by omega, by omega⟩)⟩
/-- more is allowed, less is asked -/
theorem MC_w {y : Nat} {D : UT} {C E R P C' E' R' P' : Nat → Prop} {g : GT} (h : MC y D C E R P g) (hc : ∀ j, j < 402 → gx_A g (y + 49) j ≠ 0 → (C j ∨ ∃ p, P p ∧ p < 400 ∧ gx_A g (y + 48) p = nI j) → C' j ∨ ∃ p, P' p ∧ p < 400 ∧ gx_A g (y + 48) p = nI j) (he : ∀ j, j < 402 → ¬ E' j → E j → MTY y g j) (hr : ∀ l, l < 3 → R' l → gx_A g (y + 2) l ≠ 0 ∨ R l) : MC y D C' E' R' P' g := by
  obtain ⟨h1, h2, h3, h4, h5, h6, h7⟩ := h
  exact ⟨h1, h2, fun l hl k => h3 l hl (k.elim Or.inl (hr l hl)), fun j hj k => (Classical.em (E j)).elim (he j hj k) (h4 j hj), h5, fun j hj k => hc j hj k (h6 j hj k), h7⟩
/-- used -/
theorem MC_u {y : Nat} {D : UT} {C E R P : Nat → Prop} {g : GT} {i : Nat} {v : Int32} (h : MC y D C E R P g) : MC y D (fun j => (j ≠ i ∧ C j) ∨ (j = i ∧ v ≠ 0)) E R P (px_A g (y + 49) i v) := by
  have hn : ∀ c, c ≠ 49 → ∀ j, gx_A (px_A g (y + 49) i v) (y + c) j = gx_A g (y + c) j := fun c hc j => pxA_n hc
  obtain ⟨h1, h2, h3, h4, h5, h6, h7⟩ := h
  refine ⟨shq (sqA sq0) h1, fun q hq j hj => ?_, fun l hl k => ?_, fun j hj k => ?_, fun j hj => ?_, fun j hj k => ?_, h7.trans (KFm_A ⟨by omega, by omega⟩)⟩
  · rw [hn q.1 (of_decide_eq_true (List.all_eq_true.mp (show BMt.all (fun q => decide (q.1 ≠ 49)) = true by decide) q hq))]; exact h2 q hq j hj
  · rw [hn 2 (by decide)] at k
    rw [hn 3 (by decide)]
    exact h3 l hl k
  · obtain ⟨κ, m, hk, hm⟩ := h4 j hj k
    exact ⟨κ, m, hk, MK_q hm (fun c c1 c2 => hn c (by omega))⟩
  · rw [hn 1 (by decide)]; exact h5 j hj
  · rw [pxA_A] at k
    by_cases e : j = i
    · rw [if_pos e] at k
      exact Or.inl (Or.inr ⟨e, k⟩)
    · rw [if_neg e] at k
      rcases h6 j hj k with c | ⟨p, p1, p2, p3⟩
      · exact Or.inl (Or.inl ⟨e, c⟩)
      · exact Or.inr ⟨p, p1, p2, by rw [hn 48 (by decide)]; exact p3⟩
/-- order -/
theorem MC_o {y : Nat} {D : UT} {C E R P : Nat → Prop} {g : GT} {i : Nat} {v : Int32} (h : MC y D C E R P g) (hv : vp_in v 402) : MC y D C E R (fun p => P p ∧ p ≠ i) g → MC y D C E R (fun p => P p ∧ p ≠ i) (px_A g (y + 48) i v) := by
  intro h
  have hn : ∀ c, c ≠ 48 → ∀ j, gx_A (px_A g (y + 48) i v) (y + c) j = gx_A g (y + c) j := fun c hc j => pxA_n hc
  obtain ⟨h1, h2, h3, h4, h5, h6, h7⟩ := h
  refine ⟨shq (sqA sq0) h1, fun q hq j hj => ?_, fun l hl k => ?_, fun j hj k => ?_, fun j hj => ?_, fun j hj k => ?_, h7.trans (KFm_A ⟨by omega, by omega⟩)⟩
  · by_cases e : q.1 = 48
    · have hb : q.2.2 = 402 := of_decide_eq_true (List.all_eq_true.mp (show BMt.all (fun q => decide (q.1 = 48 → q.2.2 = 402)) = true by decide) q hq) e
      rw [e, pxA_A]
      by_cases e2 : j = i
      · rw [if_pos e2, hb]; exact hv
      · rw [if_neg e2, ← e]; exact h2 q hq j hj
    · rw [hn q.1 e]; exact h2 q hq j hj
  · rw [hn 2 (by decide)] at k
    rw [hn 3 (by decide)]
    exact h3 l hl k
  · obtain ⟨κ, m, hk, hm⟩ := h4 j hj k
    exact ⟨κ, m, hk, MK_q hm (fun c c1 c2 => hn c (by omega))⟩
  · rw [hn 1 (by decide)]; exact h5 j hj
  · rw [hn 49 (by decide)] at k
    rcases h6 j hj k with c | ⟨p, p1, p2, p3⟩
    · exact Or.inl c
    · exact Or.inr ⟨p, p1, p2, by rw [pxA_i p1.2]; exact p3⟩
/-- the rows of messages, at a message that is being made -/
def mz (o : Nat) : Nat := if o = 53 then 3 else if o = 55 then 2 else if o = 56 then 600 else 1
theorem MC_m {y : Nat} {D : UT} {C E R P : Nat → Prop} {g : GT} {o i a : Nat} {v : Int32} (h : MC y D C E R P g) (hE : E a) (h1 : 50 ≤ o) (h2 : o < 57) (hi : mz o * a ≤ i ∧ i < mz o * a + mz o) : MC y D C E R P (px_A g (y + o) i v) := by
  have hn : ∀ c, c ≠ o → ∀ j, gx_A (px_A g (y + o) i v) (y + c) j = gx_A g (y + c) j := fun c hc j => pxA_n hc
  obtain ⟨i1, i2, i3, i4, i5, i6, i7⟩ := h
  refine ⟨shq (sqA sq0) i1, fun q hq j hj => ?_, fun l hl k => ?_, fun j hj k => ?_, fun j hj => ?_, fun j hj k => ?_, i7.trans (KFm_A ⟨by omega, by omega⟩)⟩
  · have := of_decide_eq_true (List.all_eq_true.mp (show BMt.all (fun q => decide (q.1 < 50)) = true by decide) q hq)
    rw [hn q.1 (by omega)]; exact i2 q hq j hj
  · rw [hn 2 (by omega)] at k
    rw [hn 3 (by omega)]
    exact i3 l hl k
  · obtain ⟨κ, m, hk, hm⟩ := i4 j hj k
    have hja : j ≠ a := fun e => k (e ▸ hE)
    obtain ⟨k1, k2, k3, k4, k5, k6, k7, k8, k9, k10, k11⟩ := hm
    have hm1 : m < 301 := Nat.lt_of_lt_of_le k8 (by
      have : ∀ κ, κ < 25 → (kb κ).2.2.2.2.2.2 ≤ 301 := by decide
      exact this κ hk)
    have e1 : ∀ c, 50 ≤ c → c < 57 → ∀ t, t < mz c → gx_A (px_A g (y + o) i v) (y + c) (mz c * j + t) = gx_A g (y + c) (mz c * j + t) := fun c c1 c2 t ht => by
      by_cases e : c = o
      · subst e
        refine pxA_i (fun e => ?_)
        have hz : mz c = 1 ∨ mz c = 2 ∨ mz c = 3 ∨ mz c = 600 := by
          unfold mz
          repeat' split
          all_goals simp
        rcases hz with hz | hz | hz | hz <;> rw [hz] at hi ht e <;> omega
      · exact hn c e _
    refine ⟨κ, m, hk, ⟨?_, ?_, ?_, ?_, ?_, ?_, ?_, k8, ?_, fun q i' hi' => ?_, fun q i' hi' => ?_⟩⟩
    · have := e1 50 (by decide) (by decide) 0 (by decide)
      rw [show mz 50 * j + 0 = j by show 1 * j + 0 = j; omega] at this
      rw [this]; exact k1
    · have := e1 52 (by decide) (by decide) 0 (by decide)
      rw [show mz 52 * j + 0 = j by show 1 * j + 0 = j; omega] at this
      rw [this]; exact k2
    · have := e1 51 (by decide) (by decide) 0 (by decide)
      rw [show mz 51 * j + 0 = j by show 1 * j + 0 = j; omega] at this
      rw [this]; exact k3
    · rw [show gx_A (px_A g (y + o) i v) (y + 53) (3 * j) = gx_A g (y + 53) (3 * j) from e1 53 (by decide) (by decide) 0 (by decide)]; exact k4
    · rw [show gx_A (px_A g (y + o) i v) (y + 53) (3 * j + 1) = gx_A g (y + 53) (3 * j + 1) from e1 53 (by decide) (by decide) 1 (by decide)]; exact k5
    · rw [show gx_A (px_A g (y + o) i v) (y + 53) (3 * j + 2) = gx_A g (y + 53) (3 * j + 2) from e1 53 (by decide) (by decide) 2 (by decide)]; exact k6
    · rw [show gx_A (px_A g (y + o) i v) (y + 55) (2 * j + 1) = gx_A g (y + 55) (2 * j + 1) from e1 55 (by decide) (by decide) 1 (by decide)]; exact k7
    · have := e1 54 (by decide) (by decide) 0 (by decide)
      rw [show mz 54 * j + 0 = j by show 1 * j + 0 = j; omega] at this
      rw [this]; exact k9
    · rw [show gx_A (px_A g (y + o) i v) (y + 56) (600 * j + 2 * i') = gx_A g (y + 56) (600 * j + 2 * i') from e1 56 (by decide) (by decide) (2 * i') (by show 2 * i' < 600; omega)]; exact k10 q i' hi'
    · have hm2 : m < 17 := by
        rw [q] at k8
        exact k8
      rw [show gx_A (px_A g (y + o) i v) (y + 56) (600 * j + 3 * i') = gx_A g (y + 56) (600 * j + 3 * i') from e1 56 (by decide) (by decide) (3 * i') (by show 3 * i' < 600; omega)]; exact k11 q i' hi'
  · rw [hn 1 (by omega)]; exact i5 j hj
  · rw [hn 49 (by omega)] at k
    rcases i6 j hj k with c | ⟨p, p1, p2, p3⟩
    · exact Or.inl c
    · exact Or.inr ⟨p, p1, p2, by rw [hn 48 (by omega)]; exact p3⟩
def MI (y : Nat) (D : UT) (c : Nat) (R : Nat → Prop) (g : GT) : Prop := ∃ A, A ≤ 400 ∧ gx_I g 1248 y = nI A ∧ MC y D (fun j => j = c) (fun _ => False) R (fun p => p < A) g
theorem php : ∀ (n : Nat) (L : List Nat), (∀ j, j < n → j ∈ L) → n ≤ L.length := by
  intro n
  induction n with
  | zero => exact fun _ _ => Nat.zero_le _
  | succ n ih =>
    intro L h
    have hn := h n (Nat.lt_succ_self n)
    have := ih (L.erase n) (fun j hj => (List.mem_erase_of_ne (by omega)).mpr (h j (by omega)))
    rw [List.length_erase_of_mem hn] at this
    have := List.length_pos_of_mem hn
    omega
theorem MC_free {y c A : Nat} {D : UT} {E R : Nat → Prop} {g : GT} (h : MC y D (fun j => j = c) E R (fun p => p < A) g) (hA : A < 400) : ∃ j, j < 402 ∧ gx_A g (y + 49) j = 0 := by
  apply Classical.byContradiction
  intro hn
  have h6 := h.2.2.2.2.2.1
  have := php 402 (c :: (List.range A).map (fun p => (gx_A g (y + 48) p).toNatClampNeg)) (fun j hj => by
    rcases h6 j hj (fun e => hn ⟨j, hj, e⟩) with e | ⟨p, p1, p2, p3⟩
    · rw [e]; exact List.mem_cons_self
    · refine List.mem_cons_of_mem _ (List.mem_map.mpr ⟨p, List.mem_range.mpr p1, ?_⟩)
      rw [p3]
      exact nI_clamp (by omega))
  rw [List.length_cons, List.length_map, List.length_range] at this
  omega
section EMR
variable {G : GE} {d mc ms : Nat} {M : MT} {pc : Nat} {ls : List (Nat × Value)} {st stk : List Value} {g : GT} {Q : RT → GT → Prop}
theorem sm_iast {a N j : Nat} {i v : Int32} (hM : mt_ok M = true) (hf : mt_in M pc (.iastore) 1) (hk : gx_K g a = 50) (hN : gx_N g a = N) (hi : i = nI j) (hj : j < N) (hb : N < 2 ^ 31) (k : ex_W G d mc ms M (pc + 1) ls st (px_A g a j v) Q) : ex_W G d mc ms M pc ls (.int v :: .int i :: .ref a :: st) g Q := by
  subst hi
  refine ex_iast hM hf hk (by rw [hN]; exact vp_in_nI hj hb) ?_
  rw [nI_clamp (by omega)]
  exact k
theorem sm_bast {a N j : Nat} {i v : Int32} (hM : mt_ok M = true) (hf : mt_in M pc (.bastore) 1) (hk : gx_K g a = 52) (hN : gx_N g a = N) (hi : i = nI j) (hj : j < N) (hb : N < 2 ^ 31) (hv : v = 0 ∨ v = 1) (k : ex_W G d mc ms M (pc + 1) ls st (px_A g a j v) Q) : ex_W G d mc ms M pc ls (.int v :: .int i :: .ref a :: st) g Q := by
  subst hi
  refine ex_bast hM hf hk hv (by rw [hN]; exact vp_in_nI hj hb) ?_
  rw [nI_clamp (by omega)]
  exact k
theorem sm_iald {a N j : Nat} {i : Int32} (hM : mt_ok M = true) (hf : mt_in M pc (.iaload) 1) (hk : gx_K g a = 50) (hN : gx_N g a = N) (hi : i = nI j) (hj : j < N) (hb : N < 2 ^ 31) (k : ex_W G d mc ms M (pc + 1) ls (.int (gx_A g a j) :: st) g Q) : ex_W G d mc ms M pc ls (.int i :: .ref a :: st) g Q := by
  subst hi
  refine ex_iald hM hf (Or.inl hk) (by rw [hN]; exact vp_in_nI hj hb) ?_
  rw [nI_clamp (by omega)]
  exact k
theorem sm_bal {a N j : Nat} {i : Int32} (hM : mt_ok M = true) (hf : mt_in M pc (.baload) 1) (hk : gx_K g a = 52) (hN : gx_N g a = N) (hi : i = nI j) (hj : j < N) (hb : N < 2 ^ 31) (k : ex_W G d mc ms M (pc + 1) ls (.int (gx_A g a j) :: st) g Q) : ex_W G d mc ms M pc ls (.int i :: .ref a :: st) g Q := by
  subst hi
  refine ex_bald hM hf hk (by rw [hN]; exact vp_in_nI hj hb) ?_
  rw [nI_clamp (by omega)]
  exact k
end EMR
theorem nI_mulc {c : Int32} {B t : Nat} (hc : c = nI B) : c * nI t = nI (B * t) := by
  rw [hc]
  exact (Int32.ofNat_mul B t).symm
theorem nI_mulc1 {c d : Int32} {B t e : Nat} (hc : c = nI B) (hd : d = nI e) : c * nI t + d = nI (B * t + e) := by
  rw [nI_mulc hc, hd, nI_add]
theorem vb0 (n : Nat) : vb (Int32.ofInt 0) n := by
  by_cases h : n = 0
  · exact Or.inl h
  · exact Or.inr (vp_mono (n := 1) (pk_in 0 1 (by decide)) (by omega))
