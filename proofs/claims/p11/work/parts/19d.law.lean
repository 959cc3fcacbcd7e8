/-! ===== the law, call by call ===== -/
theorem law_loop {G : GE} (hst : (ge_l G).stackTraces = false) {x o s L : Nat} {xs : Nat → Int32} {Q : RT → GT → Prop} (hL : L ≤ 2048) (hQ : ∀ h, Q (.inl (some (.int (nI 1)))) h) : ∀ r i : Nat, L < i + 4 * r + 4 → i ≤ L → ∀ (mc ms : Nat), 4 * r ≤ mc → 24 * r ≤ ms → ∀ (h : GT) (u d : Nat → Int32), REL u d → LB h x o s L xs u d → ex_W G 10 mc ms M_L_law 23 [(0, .ref s), (1, .ref x), (2, .ref (x + 892)), (3, .ref o), (4, .int (nI i))] [] h Q := by
  have last : ∀ i : Nat, L < i + 4 → i ≤ L → ∀ (mc ms : Nat) (h : GT) {u d : Nat → Int32}, LB h x o s L xs u d → ex_W G 10 mc ms M_L_law 23 [(0, .ref s), (1, .ref x), (2, .ref (x + 892)), (3, .ref o), (4, .int (nI i))] [] h Q := by
    intro i h1 h2 mc ms h u d w
    refine ex_iload ok_L_law (mL0 13 rfl) rfl ?_
    refine ex_aload_n ok_L_law (mL0 14 rfl) rfl ?_
    refine ex_alenx ok_L_law (mL0 15 rfl) (Or.inr (Or.inr w.2.2.2.2.1.1)) w.2.2.2.2.1.2 ?_
    refine ex_iconst ok_L_law (mL0 16 rfl) ?_
    refine ex_isub ok_L_law (mL0 17 rfl) ?_
    refine ex_icmp_gt (tgt := 1012) ok_L_law (mL0 18 rfl) rfl (fun _ => ?_) (fun hn => absurd ?_ hn)
    · refine ex_iconst ok_L_law (mL10 16 rfl) ?_
      refine ex_zret ok_L_law (mL10 17 rfl) rfl (by decide) ?_
      exact hQ _
    · by_cases h4 : 4 ≤ L
      · show nI L - Int32.ofInt 4 < nI i
        rw [nI_subc (c := Int32.ofInt 4) (b := 4) rfl h4]
        exact nI_lt (by omega) (by omega)
      · show nI L - Int32.ofInt 4 < nI i
        refine Int32.lt_of_lt_of_le (b := 0) ?_ (nI_le (a := 0) (b := i) (Nat.zero_le _) (by omega))
        rcases (by omega : L = 0 ∨ L = 1 ∨ L = 2 ∨ L = 3) with e | e | e | e <;> rw [e] <;> decide
  intro r
  induction r with
  | zero => exact fun i h1 h2 mc ms _ _ h u d _ w => last i (by omega) h2 mc ms h w
  | succ r ih =>
    intro i h1 h2 mc ms hmc hms h u d hr w
    by_cases hle : i + 4 ≤ L
    · refine ex_iload ok_L_law (mL0 13 rfl) rfl ?_
      refine ex_aload_n ok_L_law (mL0 14 rfl) rfl ?_
      refine ex_alenx ok_L_law (mL0 15 rfl) (Or.inr (Or.inr w.2.2.2.2.1.1)) w.2.2.2.2.1.2 ?_
      refine ex_iconst ok_L_law (mL0 16 rfl) ?_
      refine ex_isub ok_L_law (mL0 17 rfl) ?_
      refine ex_top (w := nI (L - 4)) (nI_subc (b := 4) rfl (by omega)) ?_
      refine ex_icmp_gt (tgt := 1012) ok_L_law (mL0 18 rfl) rfl (fun hn => absurd hn (Int32.not_lt.mpr (nI_le (a := i) (b := L - 4) (by omega) (by omega)))) (fun _ => ?_)
      refine ex_aload_n ok_L_law (mL0 19 rfl) rfl ?_
      refine ex_iload ok_L_law (mL0 20 rfl) rfl ?_
      refine lw_ld ok_L_law (mL0 21 rfl) w.2.2.2.2.1.1 w.2.2.2.2.1.2 hL (by omega) (w.2.2.2.2.2 i (by omega)) ?_
      refine ex_bipush ok_L_law (mL0 22 rfl) ?_
      refine ex_iand ok_L_law (mL0 23 rfl) ?_
      obtain ⟨c, hc, ec⟩ := vp_in_of (pk_andIn (xs i) (m := (Int8.ofInt 31).toInt32) 5 (by decide) (by decide)) (by decide)
      refine ex_top ec ?_
      have nx : ∀ (h : GT) (u d : Nat → Int32), REL u d → LB h x o s L xs u d → ∀ (mc ms : Nat), 4 * r ≤ mc → 24 * r ≤ ms → ex_W G 10 mc ms M_L_law 1006 [(0, .ref s), (1, .ref x), (2, .ref (x + 892)), (3, .ref o), (4, .int (nI i))] [] h Q := fun h u d hr w mc ms hmc hms => by
        refine ex_iincx (w := nI (i + 4)) ok_L_law (mL10 14 rfl) rfl (nI_add _ 4) ?_
        refine ex_goto (tgt := 23) ok_L_law (mL10 15 rfl) rfl ?_
        exact ex_ls (ls' := [(0, .ref s), (1, .ref x), (2, .ref (x + 892)), (3, .ref o), (4, .int (nI (i + 4)))]) ⟨rfl, rfl, rfl, rfl, rfl, trivial⟩ (ih (i + 4) (by omega) hle mc ms hmc hms h u d hr w)
      have hc : c < 32 := hc
      rcases (by omega : c = 0 ∨ c = 1 ∨ c = 2 ∨ c = 3 ∨ c = 4 ∨ c = 5 ∨ c = 6 ∨ c = 7 ∨ c = 8 ∨ c = 9 ∨ c = 10 ∨ c = 11 ∨ c = 12 ∨ c = 13 ∨ c = 14 ∨ c = 15 ∨ c = 16 ∨ c = 17 ∨ c = 18 ∨ c = 19 ∨ c = 20 ∨ c = 21 ∨ c = 22 ∨ c = 23 ∨ c = 24 ∨ c = 25 ∨ c = 26 ∨ c = 27 ∨ c = 28 ∨ c = 29 ∨ c = 30 ∨ c = 31) with rfl | rfl | rfl | rfl | rfl | rfl | rfl | rfl | rfl | rfl | rfl | rfl | rfl | rfl | rfl | rfl | rfl | rfl | rfl | rfl | rfl | rfl | rfl | rfl | rfl | rfl | rfl | rfl | rfl | rfl | rfl | rfl
      · refine ex_tblk (tgt := 136) ok_L_law (mL0 24 rfl) (by decide) (by decide) (by decide) (by decide) ?_
        exact w_begin hst hL hle w (by omega) (by omega) (fun h w => nx h u d hr w _ _ (by omega) (by omega))
      · refine ex_tblk (tgt := 188) ok_L_law (mL0 24 rfl) (by decide) (by decide) (by decide) (by decide) ?_
        exact w_propose hst hL hle w (by omega) (by omega) (fun h w => nx h u d hr w _ _ (by omega) (by omega))
      · refine ex_tblk (tgt := 228) ok_L_law (mL0 24 rfl) (by decide) (by decide) (by decide) (by decide) ?_
        exact w_collect hst hL hle w (by omega) (by omega) (fun h w => nx h u d hr w _ _ (by omega) (by omega))
      · refine ex_tblk (tgt := 256) ok_L_law (mL0 24 rfl) (by decide) (by decide) (by decide) (by decide) ?_
        exact w_reform hst hL hle w (by omega) (by omega) (fun h w => nx h u d hr w _ _ (by omega) (by omega))
      · refine ex_tblk (tgt := 308) ok_L_law (mL0 24 rfl) (by decide) (by decide) (by decide) (by decide) ?_
        exact w_again hst hL hle w (by omega) (by omega) (fun h w => nx h u d hr w _ _ (by omega) (by omega))
      · refine ex_tblk (tgt := 336) ok_L_law (mL0 24 rfl) (by decide) (by decide) (by decide) (by decide) ?_
        exact w_deliver hst hL hle w (by omega) (by omega) (fun h w => nx h u d hr w _ _ (by omega) (by omega))
      · refine ex_tblk (tgt := 364) ok_L_law (mL0 24 rfl) (by decide) (by decide) (by decide) (by decide) ?_
        exact w_run hst hL hle w (by omega) (by omega) (fun h w => nx h u d hr w _ _ (by omega) (by omega))
      · refine ex_tblk (tgt := 392) ok_L_law (mL0 24 rfl) (by decide) (by decide) (by decide) (by decide) ?_
        exact w_lose hst hL hle w (by omega) (by omega) (fun h w => nx h u d hr w _ _ (by omega) (by omega))
      · refine ex_tblk (tgt := 420) ok_L_law (mL0 24 rfl) (by decide) (by decide) (by decide) (by decide) ?_
        exact w_twice hst hL hle w (by omega) (by omega) (fun h w => nx h u d hr w _ _ (by omega) (by omega))
      · refine ex_tblk (tgt := 448) ok_L_law (mL0 24 rfl) (by decide) (by decide) (by decide) (by decide) ?_
        exact w_up hst hL hle w (by omega) (by omega) hr (fun h u d hr w => nx h u d hr w _ _ (by omega) (by omega))
      · refine ex_tblk (tgt := 551) ok_L_law (mL0 24 rfl) (by decide) (by decide) (by decide) (by decide) ?_
        exact w_message hst hL hle w (by omega) (by omega) (fun h w => nx h u d hr w _ _ (by omega) (by omega))
      · refine ex_tblk (tgt := 591) ok_L_law (mL0 24 rfl) (by decide) (by decide) (by decide) (by decide) ?_
        exact w_leader hst hL hle w (by omega) (by omega) (fun h w => nx h u d hr w _ _ (by omega) (by omega))
      · refine ex_tblk (tgt := 631) ok_L_law (mL0 24 rfl) (by decide) (by decide) (by decide) (by decide) ?_
        exact w_slot hst hL hle w (by omega) (by omega) (fun h w => nx h u d hr w _ _ (by omega) (by omega))
      · refine ex_tblk (tgt := 683) ok_L_law (mL0 24 rfl) (by decide) (by decide) (by decide) (by decide) ?_
        exact w_keeper hst hL hle w (by omega) (by omega) (fun h w => nx h u d hr w _ _ (by omega) (by omega))
      · refine ex_tblk (tgt := 723) ok_L_law (mL0 24 rfl) (by decide) (by decide) (by decide) (by decide) ?_
        exact w_entry hst hL hle w (by omega) (by omega) (fun h w => nx h u d hr w _ _ (by omega) (by omega))
      · refine ex_tblk (tgt := 791) ok_L_law (mL0 24 rfl) (by decide) (by decide) (by decide) (by decide) ?_
        exact w_voter hst hL hle w (by omega) (by omega) (fun h w => nx h u d hr w _ _ (by omega) (by omega))
      · refine ex_tblk (tgt := 831) ok_L_law (mL0 24 rfl) (by decide) (by decide) (by decide) (by decide) ?_
        exact w_vote hst hL hle w (by omega) (by omega) (fun h w => nx h u d hr w _ _ (by omega) (by omega))
      · refine ex_tblk (tgt := 899) ok_L_law (mL0 24 rfl) (by decide) (by decide) (by decide) (by decide) ?_
        exact w_copy hst hL hle w (by omega) (by omega) (fun h w => nx h u d hr w _ _ (by omega) (by omega))
      · refine ex_tblk (tgt := 939) ok_L_law (mL0 24 rfl) (by decide) (by decide) (by decide) (by decide) ?_
        exact w_agreed hst hL hle w (by omega) (by omega) (fun h w => nx h u d hr w _ _ (by omega) (by omega))
      · refine ex_tblk (tgt := 967) ok_L_law (mL0 24 rfl) (by decide) (by decide) (by decide) (by decide) ?_
        exact w_count hst hL hle w (by omega) (by omega) (fun h w => nx h u d hr w _ _ (by omega) (by omega))
      · refine ex_tblk (tgt := 995) ok_L_law (mL0 24 rfl) (by decide) (by decide) (by decide) (by decide) ?_
        exact w_clear hst hL hle w (fun h w => nx h _ _ REL_0 w _ _ (by omega) (by omega))
      · refine ex_tblk (tgt := 1006) ok_L_law (mL0 24 rfl) (by decide) (by decide) (by decide) (by decide) ?_
        exact nx h u d hr w _ _ (by omega) (by omega)
      · refine ex_tblk (tgt := 1006) ok_L_law (mL0 24 rfl) (by decide) (by decide) (by decide) (by decide) ?_
        exact nx h u d hr w _ _ (by omega) (by omega)
      · refine ex_tblk (tgt := 1006) ok_L_law (mL0 24 rfl) (by decide) (by decide) (by decide) (by decide) ?_
        exact nx h u d hr w _ _ (by omega) (by omega)
      · refine ex_tblk (tgt := 1006) ok_L_law (mL0 24 rfl) (by decide) (by decide) (by decide) (by decide) ?_
        exact nx h u d hr w _ _ (by omega) (by omega)
      · refine ex_tblk (tgt := 1006) ok_L_law (mL0 24 rfl) (by decide) (by decide) (by decide) (by decide) ?_
        exact nx h u d hr w _ _ (by omega) (by omega)
      · refine ex_tblk (tgt := 1006) ok_L_law (mL0 24 rfl) (by decide) (by decide) (by decide) (by decide) ?_
        exact nx h u d hr w _ _ (by omega) (by omega)
      · refine ex_tblk (tgt := 1006) ok_L_law (mL0 24 rfl) (by decide) (by decide) (by decide) (by decide) ?_
        exact nx h u d hr w _ _ (by omega) (by omega)
      · refine ex_tblk (tgt := 1006) ok_L_law (mL0 24 rfl) (by decide) (by decide) (by decide) (by decide) ?_
        exact nx h u d hr w _ _ (by omega) (by omega)
      · refine ex_tblk (tgt := 1006) ok_L_law (mL0 24 rfl) (by decide) (by decide) (by decide) (by decide) ?_
        exact nx h u d hr w _ _ (by omega) (by omega)
      · refine ex_tblk (tgt := 1006) ok_L_law (mL0 24 rfl) (by decide) (by decide) (by decide) (by decide) ?_
        exact nx h u d hr w _ _ (by omega) (by omega)
      · refine ex_tblk (tgt := 1006) ok_L_law (mL0 24 rfl) (by decide) (by decide) (by decide) (by decide) ?_
        exact nx h u d hr w _ _ (by omega) (by omega)
    · exact last i (by omega) h2 mc ms h w
theorem law_run {G : GE} (hst : (ge_l G).stackTraces = false) {s L : Nat} {g : GT} {xs : Nat → Int32} (hs : s < gx_Z g) (hk : gx_K g s = 60) (hn : gx_N g s = L) (hL : L ≤ 2048) (ha : ∀ j, j < L → gx_A g s j = xs j) : ex_W G 10 601024 7293034 M_L_law 0 [(0, .ref s)] [] g (fun r _ => r = .inl (some (.int (nI 1)))) := by
  refine ex_new ok_L_law (mL0 0 rfl) rfl (by decide) (by decide) (by rw [show cx_N 11 = 10 from rfl]; decide) ?_
  rw [show cx_N 11 = 10 from rfl]
  refine ex_dup ok_L_law (mL0 1 rfl) rfl ?_
  refine ex_callIp (As := []) ok_L_law (mL0 2 rfl) rfl (n_X11_init hst kNew nNew rfl) rfl rfl rfl rfl (by decide) (Nat.le_of_ble_eq_true rfl) ⟨by decide, by decide⟩ (fun h1 z1 => ?_)
  obtain ⟨f1, y1, w1⟩ := z1
  refine ex_astore_n ok_L_law (mL0 3 rfl) ?_
  refine ex_new ok_L_law (mL0 4 rfl) rfl (by decide) (by decide) (by rw [show cx_N 12 = 67 from rfl]; decide) ?_
  rw [show cx_N 12 = 67 from rfl]
  refine ex_dup ok_L_law (mL0 5 rfl) rfl ?_
  have hz : ZA (gx_Z h1) 1 (px_N h1 13 0) := ⟨fun q a b j => (show (if q = gx_Z h1 then 0 else gx_A h1 q j) = 0 from if_pos (by omega)), (show (if gx_Z h1 = gx_Z h1 then 0 else gx_I h1 1248 (gx_Z h1)) = 0 from if_pos rfl)⟩
  refine ex_callIp (As := []) ok_L_law (mL0 6 rfl) rfl (n_X12_init hst kNew nNew rfl hz) rfl rfl rfl rfl (by decide) (Nat.le_of_ble_eq_true rfl) ⟨by decide, by decide⟩ (fun h2 z2 => ?_)
  obtain ⟨h3, f2, w2⟩ := z2
  refine ex_astore_n ok_L_law (mL0 7 rfl) ?_
  refine ex_iconst ok_L_law (mL0 8 rfl) ?_
  rw [y1] at f2 w2 ⊢
  refine ex_lt (fun hlt => ?_)
  have ho : gx_Z g + 952 ≤ gx_Z h2 := by
    have := hlt (gx_Z g + 892 + 59) (by rw [fk (MI_s f2) 59 rfl]; decide)
    omega
  refine ex_newa (N := 1) ok_L_law (mL0 9 rfl) (Or.inr (Or.inl ⟨rfl, rfl⟩)) (by decide) (by decide) (by decide) hw_L (by decide) (by decide) ?_
  refine ex_astore_n ok_L_law (mL0 10 rfl) ?_
  refine ex_iconst ok_L_law (mL0 11 rfl) ?_
  refine ex_istore ok_L_law (mL0 12 rfl) ?_
  have v3 : ∀ q, q < gx_Z g + 952 → sm h2 (px_N h2 51 1) q := fun q hq => (gwN (a := gx_Z h2)).2 q (by omega) (by omega)
  have v2 : ∀ q, q < gx_Z g + 892 → sm h1 h2 q := fun q hq => (((gwN (g := h1) (k := 13) (n := 0) (a := gx_Z h1)).2 q (by omega) (by omega)).trans (w2 q hq)).trans (show sm h3 h2 q from (MI_fr f2) q (fun k => by have := k.1; omega))
  have v1 : ∀ q, q < gx_Z g → sm g h1 q := fun q hq => ((gwN (g := g) (k := 12) (n := 0) (a := gx_Z g)).2 q hq (by omega)).trans (w1 q hq)
  have vs := ((v1 s hs).trans (v2 s (by omega))).trans (v3 s (by omega))
  have w : LB (px_N h2 51 1) (gx_Z g) (gx_Z h2) s L xs Uup (fun _ => 0) := ⟨INV_sm f1 (fun q hq => (v2 q (by omega)).trans (v3 q (by omega))), MI_sm f2 (fun q hq => v3 q (by omega)), ⟨kNew, nNew⟩, ⟨hs, ho⟩, ⟨vs.1.trans hk, vs.2.1.trans hn⟩, fun j hj => (vs.2.2.2.2.1 j).trans (ha j hj)⟩
  exact ex_ls (ls' := [(0, .ref s), (1, .ref (gx_Z g)), (2, .ref (gx_Z g + 892)), (3, .ref (gx_Z h2)), (4, .int (nI 0))]) ⟨rfl, rfl, rfl, rfl, rfl, trivial⟩ (law_loop hst hL (fun _ => rfl) 512 0 (by omega) (Nat.zero_le _) _ _ (by decide) (by decide) _ _ _ REL_0 w)
