/-! ===== the model's face: what it is told ===== -/
theorem RF_no {y : Nat} {g : GT} {p0 p1 p2 : Int32} : ∀ E g', ¬ RF y g p0 p1 p2 (.inr E) g' := fun E g' h => by
  obtain ⟨b, v, h1, -⟩ := h
  cases h1
theorem in_n {v lo hi : Int32} {n : Nat} (h1 : ¬ v < lo) (h2 : ¬ hi < v) (e1 : (0 : Int32) ≤ lo) (e : hi = nI n) (hn : n + 1 < 2 ^ 31) : ∃ a, a < n + 1 ∧ v = nI a :=
  vp_in_of (vin_le (Int32.le_trans e1 (Int32.not_lt.mp h1)) (by rw [← e]; exact Int32.not_lt.mp h2) hn) hn
theorem in_m1 {v lo : Int32} {n : Nat} (h1 : ¬ v < lo) (h2 : ¬ nI n - Int32.ofInt 1 < v) (e1 : (0 : Int32) ≤ lo) (hn : n ≤ 2000) : ∃ a, a < n ∧ v = nI a := by
  cases n with
  | zero =>
    refine absurd ?_ h2
    have h0 : (0 : Int32) ≤ v := Int32.le_trans e1 (Int32.not_lt.mp h1)
    exact Int32.lt_of_lt_of_le (by decide) h0
  | succ m =>
    rw [show nI (m + 1) - Int32.ofInt 1 = nI m from nI_pred m] at h2
    exact vp_in_of (vin_le (Int32.le_trans e1 (Int32.not_lt.mp h1)) (Int32.not_lt.mp h2) (by omega)) (by omega)
theorem nI_subc {c : Int32} {a b : Nat} (hc : c = nI b) (h : b ≤ a) : nI a - c = nI (a - b) := by
  have e := nI_add (a - b) b
  rw [show a - b + b = a by omega] at e
  rw [hc, ← e]
  exact Int32.add_sub_cancel _ _
theorem pxA_comm {g : GT} {a b i j : Nat} {v w : Int32} (h : a ≠ b) : px_A (px_A g a i v) b j w = px_A (px_A g b j w) a i v := by
  have e : gx_u (gx_u g.2.2.2.2.1 a i v) b j w = gx_u (gx_u g.2.2.2.2.1 b j w) a i v := by
    funext c k
    unfold gx_u
    by_cases h1 : c = a ∧ k = i
    · have h2 : ¬ (c = b ∧ k = j) := fun q => h (h1.1.symm.trans q.1)
      rw [if_neg h2, if_pos h1, if_pos h1]
    · by_cases h2 : c = b ∧ k = j
      · rw [if_pos h2, if_neg h1, if_pos h2]
      · rw [if_neg h2, if_neg h1, if_neg h1, if_neg h2]
  exact congrArg (fun z => ((g.1, g.2.1, g.2.2.1, g.2.2.2.1, z, g.2.2.2.2.2) : GT)) e
/-- phase and round at once -/
theorem MI_two {y c l : Nat} {D : UT} {R : Nat → Prop} {g : GT} {v w : Int32} (I : MI y D c R g) (h : vp_in w 300 ∨ v = 0 ∧ ∀ l, ¬ R l) : MI y D c R (px_A (px_A g (y + 2) l v) (y + 3) l w) := by
  obtain ⟨A, h1, h2, h3⟩ := I
  refine ⟨A, h1, h2, ?_⟩
  rcases h with hw | ⟨hv, hR⟩
  · rw [pxA_comm (by omega)]
    exact MC_ph (MC_rd h3 (fun _ _ => hw)) (fun _ _ => by rw [pxA_e]; exact hw)
  · refine MC_rd (MC_ph h3 (fun _ hn => absurd hv hn)) (fun _ k => ?_)
    rw [pxA_e] at k
    exact k.elim (fun k => absurd hv k) (fun k => absurd k (hR l))
theorem s_firm {G : GE} (hst : (ge_l G).stackTraces = false) {y c : Nat} {D : UT} {R : Nat → Prop} {g : GT} (I : MI y D c R g) {a0 : Nat} (ha0 : a0 < 3) : ex_M G 1 0 0 my_X12_firm [.ref y, .int (nI (a0))] g (SM y D c R (pB 17)) := by
  refine ex_M_of ok_X12_firm cw_X12_firm rfl hst (Nat.le_of_ble_eq_true rfl) ?_
  refine ex_iconst ok_X12_firm (mi 0 rfl) ?_
  refine ex_istore_n ok_X12_firm (mi 1 rfl) ?_
  have lp2 : ∀ n2 k2 : Nat, k2 + n2 = 16 → ∀ (g1 : GT), MI y D c R g1 → ex_W G 1 0 0 M_X12_firm 2 [(0, .ref y), (1, .int (nI (a0))), (2, .int (nI (k2)))] [] g1 (SM y D c R (pB 17)) := by
    intro n2
    induction n2 with
    | zero =>
      intro k2 he2  g1 J2 
      obtain rfl : k2 = 16 := by omega
      refine ex_iload_n ok_X12_firm (mi 2 rfl) rfl ?_
      refine ex_bipush ok_X12_firm (mi 3 rfl) ?_
      refine ex_icmp_ge (tgt := 44) ok_X12_firm (mi 4 rfl) rfl (fun _ => ?_) (fun hn => absurd (by decide) hn)
      refine ex_iload_n ok_X12_firm (mi 27 rfl) rfl ?_
      refine ex_iret ok_X12_firm (mi 28 rfl) rfl ?_
      exact ⟨_, rfl, ⟨_, (by omega : 16 < 17), rfl⟩, J2⟩
    | succ n2 ih2 =>
      intro k2 he2  g1 J2 
      have hr2 : k2 < 16 := by omega
      refine ex_iload_n ok_X12_firm (mi 2 rfl) rfl ?_
      refine ex_bipush ok_X12_firm (mi 3 rfl) ?_
      refine ex_icmp_ge (tgt := 44) ok_X12_firm (mi 4 rfl) rfl (fun hn => absurd hn (nI_ge (b := 16) hr2 (by decide))) (fun _ => ?_)
      refine ex_aload_n ok_X12_firm (mi 5 rfl) rfl ?_
      refine ex_getRx ok_X12_firm (mi 6 rfl) rfl rfl (fk (MI_s J2) 0 rfl) (fr (MI_s J2) 15 rfl) (fk (MI_s J2) 16 rfl) (by decide) ?_
      refine ex_bipush ok_X12_firm (mi 7 rfl) ?_
      refine ex_iload_n ok_X12_firm (mi 8 rfl) rfl ?_
      refine ex_imul ok_X12_firm (mi 9 rfl) ?_
      refine ex_top (w := (nI (16 * a0))) (nI_mulc rfl) ?_
      refine ex_iload_n ok_X12_firm (mi 10 rfl) rfl ?_
      refine ex_iadd ok_X12_firm (mi 11 rfl) ?_
      refine ex_top (w := (nI (16 * a0 + k2))) (nI_add _ _) ?_
      refine sm_iald ok_X12_firm (mi 12 rfl) (fk (MI_s J2) 16 rfl) (fn (MI_s J2) 16 rfl) rfl (by omega) (by decide) ?_
      refine ex_gen (fun w3 => ?_)
      refine ex_iconst ok_X12_firm (mi 13 rfl) ?_
      refine ex_icmp_eq (tgt := 38) ok_X12_firm (mi 14 rfl) rfl (fun h20 => ?_) (fun h20 => ?_)
      · skip
        refine ex_iincx (w := (nI (k2 + 1))) ok_X12_firm (mi 25 rfl) rfl (nI_1 _) ?_
        refine ex_goto (tgt := 2) ok_X12_firm (mi 26 rfl) rfl ?_
        exact ex_ls (ls' := [(0, .ref y), (1, .int (nI (a0))), (2, .int (nI (k2 + 1)))]) ⟨rfl, rfl, rfl, trivial⟩ (ih2 (k2 + 1) (by omega) g1 J2 )
      · skip
        refine ex_aload_n ok_X12_firm (mi 15 rfl) rfl ?_
        refine ex_getRx ok_X12_firm (mi 16 rfl) rfl rfl (fk (MI_s J2) 0 rfl) (fr (MI_s J2) 15 rfl) (fk (MI_s J2) 16 rfl) (by decide) ?_
        refine ex_bipush ok_X12_firm (mi 17 rfl) ?_
        refine ex_iload_n ok_X12_firm (mi 18 rfl) rfl ?_
        refine ex_imul ok_X12_firm (mi 19 rfl) ?_
        refine ex_top (w := (nI (16 * a0))) (nI_mulc rfl) ?_
        refine ex_iload_n ok_X12_firm (mi 20 rfl) rfl ?_
        refine ex_iadd ok_X12_firm (mi 21 rfl) ?_
        refine ex_top (w := (nI (16 * a0 + k2))) (nI_add _ _) ?_
        refine sm_iald ok_X12_firm (mi 22 rfl) (fk (MI_s J2) 16 rfl) (fn (MI_s J2) 16 rfl) rfl (by omega) (by decide) ?_
        refine ex_gen (fun w4 => ?_)
        refine ex_iconst ok_X12_firm (mi 23 rfl) ?_
        refine ex_icmp_ne (tgt := 44) ok_X12_firm (mi 24 rfl) rfl (fun h35 => ?_) (fun h35 => ?_)
        · skip
          refine ex_iload_n ok_X12_firm (mi 27 rfl) rfl ?_
          refine ex_iret ok_X12_firm (mi 28 rfl) rfl ?_
          exact ⟨_, rfl, ⟨_, (by omega : k2 < 17), rfl⟩, J2⟩
        · skip
          refine ex_iincx (w := (nI (k2 + 1))) ok_X12_firm (mi 25 rfl) rfl (nI_1 _) ?_
          refine ex_goto (tgt := 2) ok_X12_firm (mi 26 rfl) rfl ?_
          exact ex_ls (ls' := [(0, .ref y), (1, .int (nI (a0))), (2, .int (nI (k2 + 1)))]) ⟨rfl, rfl, rfl, trivial⟩ (ih2 (k2 + 1) (by omega) g1 J2 )
  exact ex_ls (ls' := [(0, .ref y), (1, .int (nI (a0))), (2, .int (nI 0))]) ⟨rfl, rfl, rfl, trivial⟩ (lp2 (16 - 0) (0) (by omega) g I )
theorem s_X12_deliver {G : GE} (hst : (ge_l G).stackTraces = false) {y : Nat} {D : UT} {R : Nat → Prop} {g : GT} (I : MI y D 402 R g) {p0 : Int32} : ex_M G 8 0 0 my_X12_deliver [.ref y, .int p0] g (SM y D 402 R pI) := by
  refine ex_M_of ok_X12_deliver cw_X12_deliver rfl hst (Nat.le_of_ble_eq_true rfl) ?_
  refine ex_aload_n ok_X12_deliver (mi 0 rfl) rfl ?_
  refine ex_iload_n ok_X12_deliver (mi 1 rfl) rfl ?_
  refine ex_iconst ok_X12_deliver (mi 2 rfl) ?_
  refine ex_aload_n ok_X12_deliver (mi 3 rfl) rfl ?_
  obtain ⟨A1, hAA1, haA1, h0A1⟩ := id I
  refine ex_getI ok_X12_deliver (mi 4 rfl) rfl rfl (fk (MI_s I) 0 rfl) ?_
  refine ex_top (w := nI A1) haA1 ?_
  refine ex_iconst ok_X12_deliver (mi 5 rfl) ?_
  refine ex_isub ok_X12_deliver (mi 6 rfl) ?_
  refine sf_Sp (As := [_, _, _]) ok_X12_deliver (mi 7 rfl) rfl (s_in hst) rfl rfl rfl (by decide) (Nat.le_of_ble_eq_true rfl) (by decide) (fun z2 p3 => ?_)
  obtain ⟨b4, rfl, hb4⟩ := p3
  refine ex_iconst ok_X12_deliver (mi 8 rfl) ?_
  refine ex_iconst ok_X12_deliver (mi 9 rfl) ?_
  refine sm_V (As := [_, _, _]) ok_X12_deliver (mi 10 rfl) rfl (s_ref hst (MI_s I)) rfl (fk (MI_s I) 0 rfl) rfl rfl (by decide) (by decide) (Nat.le_of_ble_eq_true rfl) (by decide) RF_no (fun z5 g9 p6 => ?_)
  obtain ⟨b7, v8, eb7, egb7, hrb7⟩ := p6
  cases eb7
  subst egb7
  have J10 := MI_I (f := 1200) (v := v8) I (by decide)
  have haA1' : gx_I (px_I g 1200 y v8) 1248 y = nI A1 := by rw [gxI_I, if_neg (fun k => absurd k.1 (by decide))]; exact haA1
  have h0A1' := MC_I (f := 1200) (v := v8) h0A1
  refine ex_if_eq (tgt := 22) ok_X12_deliver (mi 11 rfl) rfl (fun h17 => ?_) (fun h17 => ?_)
  · skip
    obtain rfl : b7 = nI 0 := h17.trans (by decide)
    have q11 := hrb7.resolve_right (fun q => absurd q.1 (by decide))
    obtain ⟨eb4, lb4, ub4⟩ := hb4.resolve_left (fun q => q11.2.1 q.1)
    obtain rfl : b4 = nI 1 := eb4.trans (by decide)
    obtain ⟨a12, ha12, rfl⟩ := in_m1 (n := A1) lb4 ub4 (by decide) (by omega)
    refine ex_aload_n ok_X12_deliver (mi 14 rfl) rfl ?_
    refine ex_iload_n ok_X12_deliver (mi 15 rfl) rfl ?_
    refine sm_V (As := [_]) ok_X12_deliver (mi 16 rfl) rfl (s_X12_arrive hst hAA1 haA1' h0A1' (by omega)) rfl (fk (MI_s J10) 0 rfl) rfl rfl (by decide) (by decide) (Nat.le_of_ble_eq_true rfl) (by decide) SM_no (fun z13 g15 p14 => ?_)
    obtain ⟨u17, eu17, u17p, J16⟩ := p14
    cases eu17
    obtain ⟨v18, rfl⟩ := u17p
    refine ex_iret ok_X12_deliver (mi 17 rfl) rfl ?_
    exact ⟨_, rfl, ⟨_, rfl⟩, J16⟩
  · skip
    refine ex_iconst ok_X12_deliver (mi 12 rfl) ?_
    refine ex_iret ok_X12_deliver (mi 13 rfl) rfl ?_
    exact ⟨_, rfl, ⟨_, rfl⟩, J10⟩
theorem s_X12_lose {G : GE} (hst : (ge_l G).stackTraces = false) {y c : Nat} {D : UT} {R : Nat → Prop} {g : GT} (I : MI y D c R g) {p0 : Int32} : ex_M G 2 0 0 my_X12_lose [.ref y, .int p0] g (SM y D c R pI) := by
  refine ex_M_of ok_X12_lose cw_X12_lose rfl hst (Nat.le_of_ble_eq_true rfl) ?_
  refine ex_aload_n ok_X12_lose (mi 0 rfl) rfl ?_
  refine ex_iload_n ok_X12_lose (mi 1 rfl) rfl ?_
  refine ex_iconst ok_X12_lose (mi 2 rfl) ?_
  refine ex_aload_n ok_X12_lose (mi 3 rfl) rfl ?_
  obtain ⟨A1, hAA1, haA1, h0A1⟩ := id I
  refine ex_getI ok_X12_lose (mi 4 rfl) rfl rfl (fk (MI_s I) 0 rfl) ?_
  refine ex_top (w := nI A1) haA1 ?_
  refine ex_iconst ok_X12_lose (mi 5 rfl) ?_
  refine ex_isub ok_X12_lose (mi 6 rfl) ?_
  refine sf_Sp (As := [_, _, _]) ok_X12_lose (mi 7 rfl) rfl (s_in hst) rfl rfl rfl (by decide) (Nat.le_of_ble_eq_true rfl) (by decide) (fun z2 p3 => ?_)
  obtain ⟨b4, rfl, hb4⟩ := p3
  refine ex_iconst ok_X12_lose (mi 8 rfl) ?_
  refine ex_iconst ok_X12_lose (mi 9 rfl) ?_
  refine sm_V (As := [_, _, _]) ok_X12_lose (mi 10 rfl) rfl (s_ref hst (MI_s I)) rfl (fk (MI_s I) 0 rfl) rfl rfl (by decide) (by decide) (Nat.le_of_ble_eq_true rfl) (by decide) RF_no (fun z5 g9 p6 => ?_)
  obtain ⟨b7, v8, eb7, egb7, hrb7⟩ := p6
  cases eb7
  subst egb7
  have J10 := MI_I (f := 1200) (v := v8) I (by decide)
  have haA1' : gx_I (px_I g 1200 y v8) 1248 y = nI A1 := by rw [gxI_I, if_neg (fun k => absurd k.1 (by decide))]; exact haA1
  have h0A1' := MC_I (f := 1200) (v := v8) h0A1
  refine ex_if_eq (tgt := 22) ok_X12_lose (mi 11 rfl) rfl (fun h17 => ?_) (fun h17 => ?_)
  · skip
    obtain rfl : b7 = nI 0 := h17.trans (by decide)
    have q11 := hrb7.resolve_right (fun q => absurd q.1 (by decide))
    obtain ⟨eb4, lb4, ub4⟩ := hb4.resolve_left (fun q => q11.2.1 q.1)
    obtain rfl : b4 = nI 1 := eb4.trans (by decide)
    obtain ⟨a12, ha12, rfl⟩ := in_m1 (n := A1) lb4 ub4 (by decide) (by omega)
    refine ex_aload_n ok_X12_lose (mi 14 rfl) rfl ?_
    refine ex_getRx ok_X12_lose (mi 15 rfl) rfl rfl (fk (MI_s J10) 0 rfl) (fr (MI_s J10) 49 rfl) (fk (MI_s J10) 50 rfl) (by decide) ?_
    refine ex_aload_n ok_X12_lose (mi 16 rfl) rfl ?_
    refine ex_iload_n ok_X12_lose (mi 17 rfl) rfl ?_
    refine sm_V (As := [_]) ok_X12_lose (mi 18 rfl) rfl (s_X12_take hst hAA1 haA1' h0A1' (by omega)) rfl (fk (MI_s J10) 0 rfl) rfl rfl (by decide) (by decide) (Nat.le_of_ble_eq_true rfl) (by decide) TK_no (fun z14 g15 p16 => ?_)
    obtain ⟨t13, et13, ht13, J17⟩ := p16
    cases et13
    refine sm_iald ok_X12_lose (mi 19 rfl) (fk (MI_s J17) 50 rfl) (fn (MI_s J17) 50 rfl) rfl (by omega) (by decide) ?_
    refine ex_gen (fun w18 => ?_)
    refine ex_iret ok_X12_lose (mi 20 rfl) rfl ?_
    exact ⟨_, rfl, ⟨_, rfl⟩, J17⟩
  · skip
    refine ex_iconst ok_X12_lose (mi 12 rfl) ?_
    refine ex_iret ok_X12_lose (mi 13 rfl) rfl ?_
    exact ⟨_, rfl, ⟨_, rfl⟩, J10⟩
theorem s_X12_run {G : GE} (hst : (ge_l G).stackTraces = false) {y : Nat} {D : UT} {R : Nat → Prop} {g : GT} (I : MI y D 402 R g) {p0 : Int32} : ex_M G 8 0 0 my_X12_run [.ref y, .int p0] g (SM y D 402 R pI) := by
  refine ex_M_of ok_X12_run cw_X12_run rfl hst (Nat.le_of_ble_eq_true rfl) ?_
  refine ex_aload_n ok_X12_run (mi 0 rfl) rfl ?_
  refine ex_iconst ok_X12_run (mi 1 rfl) ?_
  refine ex_iload_n ok_X12_run (mi 2 rfl) rfl ?_
  refine ex_iconst ok_X12_run (mi 3 rfl) ?_
  refine ex_sipush ok_X12_run (mi 4 rfl) ?_
  refine sf_Sp (As := [_, _, _]) ok_X12_run (mi 5 rfl) rfl (s_in hst) rfl rfl rfl (by decide) (Nat.le_of_ble_eq_true rfl) (by decide) (fun z1 p1 => ?_)
  obtain ⟨b, rfl, hb⟩ := p1
  refine ex_iconst ok_X12_run (mi 6 rfl) ?_
  refine sm_V (As := [_, _, _]) ok_X12_run (mi 7 rfl) rfl (s_ref hst (MI_s I)) rfl (fk (MI_s I) 0 rfl) rfl rfl (by decide) (by decide) (Nat.le_of_ble_eq_true rfl) (by decide) RF_no (fun z2 g2 p2 => ?_)
  obtain ⟨c, v, ec, eg, hr⟩ := p2
  cases ec
  subst eg
  have I2 := MI_I (f := 1200) (v := v) I (by decide)
  refine ex_if_eq (tgt := 24) ok_X12_run (mi 8 rfl) rfl (fun h8 => ?_) (fun h8 => ?_)
  · have hq := hr.resolve_right (fun q => absurd (q.1.symm.trans h8) (by decide))
    obtain ⟨-, l1, u1⟩ := hb.resolve_left (fun q => hq.2.2.1 q.1)
    obtain ⟨N, hN, rfl⟩ := in_n (n := 2000) l1 u1 (by decide) rfl (by decide)
    refine ex_iconst ok_X12_run (mi 14 rfl) ?_
    refine ex_istore_n ok_X12_run (mi 15 rfl) ?_
    have lp : ∀ r t : Nat, t + r = N → ∀ g : GT, MI y D 402 R g → ex_W G 8 0 0 M_X12_run 26 [(0, .ref y), (1, .int (nI N)), (2, .int (nI t))] [] g (SM y D 402 R pI) := by
      intro r
      induction r with
      | zero =>
        intro t ht g I
        obtain rfl : t = N := by omega
        refine ex_iload_n ok_X12_run (mi 16 rfl) rfl ?_
        refine ex_iload_n ok_X12_run (mi 17 rfl) rfl ?_
        refine ex_icmp_ge (tgt := 50) ok_X12_run (mi 18 rfl) rfl (fun _ => ?_) (fun hn => absurd (nI_le (Nat.le_refl _) (by omega)) hn)
        refine ex_iload_n ok_X12_run (mi 28 rfl) rfl ?_
        refine ex_iret ok_X12_run (mi 29 rfl) rfl ?_
        exact ⟨_, rfl, ⟨_, rfl⟩, I⟩
      | succ r ih =>
        intro t ht g I
        obtain ⟨A, hA, ha, h0⟩ := id I
        refine ex_iload_n ok_X12_run (mi 16 rfl) rfl ?_
        refine ex_iload_n ok_X12_run (mi 17 rfl) rfl ?_
        refine ex_icmp_ge (tgt := 50) ok_X12_run (mi 18 rfl) rfl (fun hn => absurd hn (nI_ge (by omega) (by omega))) (fun _ => ?_)
        refine ex_aload_n ok_X12_run (mi 19 rfl) rfl ?_
        refine ex_getI ok_X12_run (mi 20 rfl) rfl rfl (fk (MI_s I) 0 rfl) ?_
        refine ex_top (w := nI A) ha ?_
        refine ex_if_le (tgt := 50) ok_X12_run (mi 21 rfl) rfl (fun _ => ?_) (fun hp => ?_)
        · refine ex_iload_n ok_X12_run (mi 28 rfl) rfl ?_
          refine ex_iret ok_X12_run (mi 29 rfl) rfl ?_
          exact ⟨_, rfl, ⟨_, rfl⟩, I⟩
        · have hA0 : 0 < A := Nat.pos_of_ne_zero (fun e => hp (by rw [e]; decide))
          refine ex_aload_n ok_X12_run (mi 22 rfl) rfl ?_
          refine ex_iconst ok_X12_run (mi 23 rfl) ?_
          refine sm_V (As := [_]) ok_X12_run (mi 24 rfl) rfl (s_X12_arrive (k := 0) hst hA ha h0 hA0) rfl (fk (MI_s I) 0 rfl) rfl rfl (by decide) (by decide) (Nat.le_of_ble_eq_true rfl) (by decide) SM_no (fun z3 g3 p3 => ?_)
          obtain ⟨u, eu, ⟨w, rfl⟩, I3⟩ := p3
          cases eu
          refine ex_istore_n ok_X12_run (mi 25 rfl) ?_
          refine ex_iincx (w := nI (t + 1)) ok_X12_run (mi 26 rfl) rfl (nI_1 t) ?_
          refine ex_goto (tgt := 26) ok_X12_run (mi 27 rfl) rfl ?_
          exact ex_ls (ls' := [(0, .ref y), (1, .int (nI N)), (2, .int (nI (t + 1)))]) ⟨rfl, rfl, rfl, trivial⟩ (ih (t + 1) (by omega) g3 I3)
    exact ex_ls (ls' := [(0, .ref y), (1, .int (nI N)), (2, .int (nI 0))]) ⟨rfl, rfl, rfl, trivial⟩ (lp N 0 (by omega) _ I2)
  · refine ex_aload_n ok_X12_run (mi 9 rfl) rfl ?_
    refine ex_iconst ok_X12_run (mi 10 rfl) ?_
    refine mf_putI I2 ok_X12_run (mi 11 rfl) rfl rfl (fk (MI_s I2) 0 rfl) (by decide) (by decide) (fun g3 I3 _ => ?_)
    refine ex_iconst ok_X12_run (mi 12 rfl) ?_
    refine ex_iret ok_X12_run (mi 13 rfl) rfl ?_
    exact ⟨_, rfl, ⟨_, rfl⟩, I3⟩
