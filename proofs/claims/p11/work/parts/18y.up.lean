/-! ===== entries of a keeper, counted exactly ===== -/
def ce (f : Nat → Int32) : Nat → Nat → Nat
  | _, 0 => 0
  | r, n + 1 => (if f r = 0 then 0 else 1) + ce f (r + 1) n
theorem ce_le (f : Nat → Int32) : ∀ n r, ce f r n ≤ n := by
  intro n
  induction n with
  | zero => exact fun _ => Nat.le_refl _
  | succ n ih =>
    intro r
    have := ih (r + 1)
    show (if f r = 0 then 0 else 1) + ce f (r + 1) n ≤ n + 1
    split <;> omega
def eF (y k : Nat) (g : GT) : Nat → Int32 := fun j => gx_A g (y + 38) (300 * k + j)
theorem s_count {G : GE} (hst : (ge_l G).stackTraces = false) {y k : Nat} {g : GT} (S : sh T12 g y) (hk : k < 9) : ex_M G 1 0 0 my_X12_countEntries [.ref y, .int (nI k)] g (SVp g (fun v => v = some (.int (nI (ce (eF y k g) 0 300))))) := by
  refine ex_M_of ok_X12_countEntries cw_X12_countEntries rfl hst (Nat.le_of_ble_eq_true rfl) ?_
  refine ex_iconst ok_X12_countEntries (mi 0 rfl) ?_
  refine ex_istore_n ok_X12_countEntries (mi 1 rfl) ?_
  refine ex_iconst ok_X12_countEntries (mi 2 rfl) ?_
  refine ex_istore_n ok_X12_countEntries (mi 3 rfl) ?_
  have lp : ∀ n r m : Nat, r + n = 300 → ex_W G 1 0 0 M_X12_countEntries 4 [(0, .ref y), (1, .int (nI k)), (2, .int (nI m)), (3, .int (nI r))] [] g (SVp g (fun v => v = some (.int (nI (m + ce (eF y k g) r n))))) := by
    intro n
    induction n with
    | zero =>
      intro r m hr
      obtain rfl : r = 300 := by omega
      refine ex_iload_n ok_X12_countEntries (mi 4 rfl) rfl ?_
      refine ex_sipush ok_X12_countEntries (mi 5 rfl) ?_
      refine ex_icmp_ge (tgt := 40) ok_X12_countEntries (mi 6 rfl) rfl (fun _ => ?_) (fun hn => absurd (by decide) hn)
      refine ex_iload_n ok_X12_countEntries (mi 24 rfl) rfl ?_
      refine ex_iret ok_X12_countEntries (mi 25 rfl) rfl ?_
      exact ⟨_, rfl, rfl, rfl⟩
    | succ n ih =>
      intro r m hr
      refine ex_iload_n ok_X12_countEntries (mi 4 rfl) rfl ?_
      refine ex_sipush ok_X12_countEntries (mi 5 rfl) ?_
      refine ex_icmp_ge (tgt := 40) ok_X12_countEntries (mi 6 rfl) rfl (fun hn => absurd hn (nI_ge (b := 300) (by omega) (by decide))) (fun _ => ?_)
      refine ex_iload_n ok_X12_countEntries (mi 7 rfl) rfl ?_
      refine ex_aload_n ok_X12_countEntries (mi 8 rfl) rfl ?_
      refine ex_getRx ok_X12_countEntries (mi 9 rfl) rfl rfl (fk S 0 rfl) (fr S 37 rfl) (fk S 38 rfl) (by decide) ?_
      refine ex_sipush ok_X12_countEntries (mi 10 rfl) ?_
      refine ex_iload_n ok_X12_countEntries (mi 11 rfl) rfl ?_
      refine ex_imul ok_X12_countEntries (mi 12 rfl) ?_
      refine ex_top (w := nI (300 * k)) (nI_mulc rfl) ?_
      refine ex_iload_n ok_X12_countEntries (mi 13 rfl) rfl ?_
      refine ex_iadd ok_X12_countEntries (mi 14 rfl) ?_
      refine ex_top (w := nI (300 * k + r)) (nI_add _ _) ?_
      refine sm_iald ok_X12_countEntries (mi 15 rfl) (fk S 38 rfl) (fn S 38 rfl) rfl (by omega) (by decide) ?_
      refine ex_if_eq (tgt := 31) ok_X12_countEntries (mi 16 rfl) rfl (fun h0 => ?_) (fun h0 => ?_)
      · refine ex_iconst ok_X12_countEntries (mi 19 rfl) ?_
        refine ex_iadd ok_X12_countEntries (mi 20 rfl) ?_
        refine ex_top (w := nI (m + 0)) (nI_add _ 0) ?_
        refine ex_istore_n ok_X12_countEntries (mi 21 rfl) ?_
        refine ex_iincx (w := nI (r + 1)) ok_X12_countEntries (mi 22 rfl) rfl (nI_1 r) ?_
        refine ex_goto (tgt := 4) ok_X12_countEntries (mi 23 rfl) rfl ?_
        have e : m + ce (eF y k g) r (n + 1) = m + 0 + ce (eF y k g) (r + 1) n := by
          show m + ((if eF y k g r = 0 then 0 else 1) + ce (eF y k g) (r + 1) n) = _
          rw [if_pos (show eF y k g r = 0 from h0)]; omega
        rw [e]
        exact ex_ls (ls' := [(0, .ref y), (1, .int (nI k)), (2, .int (nI (m + 0))), (3, .int (nI (r + 1)))]) ⟨rfl, rfl, rfl, rfl, trivial⟩ (ih (r + 1) (m + 0) (by omega))
      · refine ex_iconst ok_X12_countEntries (mi 17 rfl) ?_
        refine ex_goto (tgt := 32) ok_X12_countEntries (mi 18 rfl) rfl ?_
        refine ex_iadd ok_X12_countEntries (mi 20 rfl) ?_
        refine ex_top (w := nI (m + 1)) (nI_add _ 1) ?_
        refine ex_istore_n ok_X12_countEntries (mi 21 rfl) ?_
        refine ex_iincx (w := nI (r + 1)) ok_X12_countEntries (mi 22 rfl) rfl (nI_1 r) ?_
        refine ex_goto (tgt := 4) ok_X12_countEntries (mi 23 rfl) rfl ?_
        have e : m + ce (eF y k g) r (n + 1) = m + 1 + ce (eF y k g) (r + 1) n := by
          show m + ((if eF y k g r = 0 then 0 else 1) + ce (eF y k g) (r + 1) n) = _
          rw [if_neg (show ¬ eF y k g r = 0 from h0)]; omega
        rw [e]
        exact ex_ls (ls' := [(0, .ref y), (1, .int (nI k)), (2, .int (nI (m + 1))), (3, .int (nI (r + 1)))]) ⟨rfl, rfl, rfl, rfl, trivial⟩ (ih (r + 1) (m + 1) (by omega))
  have h := lp 300 0 0 rfl
  rw [Nat.zero_add] at h
  exact ex_ls (ls' := [(0, .ref y), (1, .int (nI k)), (2, .int (nI 0)), (3, .int (nI 0))]) ⟨rfl, rfl, rfl, rfl, trivial⟩ h
theorem ent51 {G : GE} {y k c : Nat} {D : UT} {R : Nat → Prop} {g : GT} {p : Int32} (I : MI y D c R g) (hk : k < 9) : ∀ n r a : Nat, r + n = 300 → a < ce (eF y k g) r n → ex_W G 2 0 0 M_X12_entry 51 [(0, .ref y), (1, .int (nI k)), (3, .int p), (5, .int (nI a)), (6, .int (nI r))] [] g (SM y D c R pI) := by
  have S := MI_s I
  intro n
  induction n with
  | zero => exact fun r a _ h => absurd h (Nat.not_lt_zero _)
  | succ n ih =>
    intro r a hr ha
    have ha' : a < (if eF y k g r = 0 then 0 else 1) + ce (eF y k g) (r + 1) n := ha
    refine ex_aload_n ok_X12_entry (mi 30 rfl) rfl ?_
    refine ex_getRx ok_X12_entry (mi 31 rfl) rfl rfl (fk S 0 rfl) (fr S 37 rfl) (fk S 38 rfl) (by decide) ?_
    refine ex_sipush ok_X12_entry (mi 32 rfl) ?_
    refine ex_iload_n ok_X12_entry (mi 33 rfl) rfl ?_
    refine ex_imul ok_X12_entry (mi 34 rfl) ?_
    refine ex_top (w := nI (300 * k)) (nI_mulc rfl) ?_
    refine ex_iload ok_X12_entry (mi 35 rfl) rfl ?_
    refine ex_iadd ok_X12_entry (mi 36 rfl) ?_
    refine ex_top (w := nI (300 * k + r)) (nI_add _ _) ?_
    refine sm_iald ok_X12_entry (mi 37 rfl) (fk S 38 rfl) (fn S 38 rfl) rfl (by omega) (by decide) ?_
    have body : ∀ e : Nat, (if gx_A g (y + 38) (300 * k + r) = 0 then 0 else 1) = e → e ≤ a → ex_W G 2 0 0 M_X12_entry 72 [(0, .ref y), (1, .int (nI k)), (3, .int p), (5, .int (nI a)), (6, .int (nI r))] [] g (SM y D c R pI) := by
      intro e he hea
      refine ex_iload ok_X12_entry (mi 41 rfl) rfl ?_
      refine ex_aload_n ok_X12_entry (mi 42 rfl) rfl ?_
      refine ex_getRx ok_X12_entry (mi 43 rfl) rfl rfl (fk S 0 rfl) (fr S 37 rfl) (fk S 38 rfl) (by decide) ?_
      refine ex_sipush ok_X12_entry (mi 44 rfl) ?_
      refine ex_iload_n ok_X12_entry (mi 45 rfl) rfl ?_
      refine ex_imul ok_X12_entry (mi 46 rfl) ?_
      refine ex_top (w := nI (300 * k)) (nI_mulc rfl) ?_
      refine ex_iload ok_X12_entry (mi 47 rfl) rfl ?_
      refine ex_iadd ok_X12_entry (mi 48 rfl) ?_
      refine ex_top (w := nI (300 * k + r)) (nI_add _ _) ?_
      refine sm_iald ok_X12_entry (mi 49 rfl) (fk S 38 rfl) (fn S 38 rfl) rfl (by omega) (by decide) ?_
      have hn : a - e < ce (eF y k g) (r + 1) n := by
        have : (if eF y k g r = 0 then 0 else 1) = e := he
        rw [this] at ha'
        omega
      refine ex_if_eq (tgt := 94) ok_X12_entry (mi 50 rfl) rfl (fun h0 => ?_) (fun h0 => ?_)
      · obtain rfl : e = 0 := by rw [← he, if_pos h0]
        refine ex_iconst ok_X12_entry (mi 53 rfl) ?_
        refine ex_isub ok_X12_entry (mi 54 rfl) ?_
        refine ex_top (w := nI (a - 0)) (nI_subc (b := 0) rfl hea) ?_
        refine ex_istore ok_X12_entry (mi 55 rfl) ?_
        refine ex_iincx (w := nI (r + 1)) ok_X12_entry (mi 56 rfl) rfl (nI_1 r) ?_
        refine ex_goto (tgt := 51) ok_X12_entry (mi 57 rfl) rfl ?_
        exact ex_ls (ls' := [(0, .ref y), (1, .int (nI k)), (3, .int p), (5, .int (nI (a - 0))), (6, .int (nI (r + 1)))]) ⟨rfl, rfl, rfl, rfl, rfl, trivial⟩ (ih (r + 1) (a - 0) (by omega) hn)
      · obtain rfl : e = 1 := by rw [← he, if_neg h0]
        refine ex_iconst ok_X12_entry (mi 51 rfl) ?_
        refine ex_goto (tgt := 95) ok_X12_entry (mi 52 rfl) rfl ?_
        refine ex_isub ok_X12_entry (mi 54 rfl) ?_
        refine ex_top (w := nI (a - 1)) (nI_subc (b := 1) rfl hea) ?_
        refine ex_istore ok_X12_entry (mi 55 rfl) ?_
        refine ex_iincx (w := nI (r + 1)) ok_X12_entry (mi 56 rfl) rfl (nI_1 r) ?_
        refine ex_goto (tgt := 51) ok_X12_entry (mi 57 rfl) rfl ?_
        exact ex_ls (ls' := [(0, .ref y), (1, .int (nI k)), (3, .int p), (5, .int (nI (a - 1))), (6, .int (nI (r + 1)))]) ⟨rfl, rfl, rfl, rfl, rfl, trivial⟩ (ih (r + 1) (a - 1) (by omega) hn)
    refine ex_if_eq (tgt := 72) ok_X12_entry (mi 38 rfl) rfl (fun h0 => body 0 (if_pos h0) (Nat.zero_le _)) (fun h0 => ?_)
    refine ex_iload ok_X12_entry (mi 39 rfl) rfl ?_
    refine ex_if_le (tgt := 104) ok_X12_entry (mi 40 rfl) rfl (fun _ => ?_) (fun hp => body 1 (if_neg h0) (Nat.pos_of_ne_zero (fun e => hp (by rw [e]; decide))))
    refine ex_iload_n ok_X12_entry (mi 58 rfl) rfl ?_
    refine ex_if_eq (tgt := 124) ok_X12_entry (mi 59 rfl) rfl (fun _ => ?_) (fun _ => ?_)
    · refine ex_iload ok_X12_entry (mi 69 rfl) rfl ?_
      refine ex_iret ok_X12_entry (mi 70 rfl) rfl ?_
      exact ⟨_, rfl, ⟨_, rfl⟩, I⟩
    · refine ex_aload_n ok_X12_entry (mi 60 rfl) rfl ?_
      refine ex_getRx ok_X12_entry (mi 61 rfl) rfl rfl (fk S 0 rfl) (fr S 37 rfl) (fk S 38 rfl) (by decide) ?_
      refine ex_sipush ok_X12_entry (mi 62 rfl) ?_
      refine ex_iload_n ok_X12_entry (mi 63 rfl) rfl ?_
      refine ex_imul ok_X12_entry (mi 64 rfl) ?_
      refine ex_top (w := nI (300 * k)) (nI_mulc rfl) ?_
      refine ex_iload ok_X12_entry (mi 65 rfl) rfl ?_
      refine ex_iadd ok_X12_entry (mi 66 rfl) ?_
      refine ex_top (w := nI (300 * k + r)) (nI_add _ _) ?_
      refine sm_iald ok_X12_entry (mi 67 rfl) (fk S 38 rfl) (fn S 38 rfl) rfl (by omega) (by decide) ?_
      refine ex_goto (tgt := 126) ok_X12_entry (mi 68 rfl) rfl ?_
      refine ex_iret ok_X12_entry (mi 70 rfl) rfl ?_
      exact ⟨_, rfl, ⟨_, rfl⟩, I⟩
theorem s_X12_entry {G : GE} (hst : (ge_l G).stackTraces = false) {y c : Nat} {D : UT} {R : Nat → Prop} {g : GT} (I : MI y D c R g) {p0 p1 p2 : Int32} : ex_M G 2 0 0 my_X12_entry [.ref y, .int p0, .int p1, .int p2] g (SM y D c R pI) := by
  refine ex_M_of ok_X12_entry cw_X12_entry rfl hst (Nat.le_of_ble_eq_true rfl) ?_
  refine ex_iload_n ok_X12_entry (mi 0 rfl) rfl ?_
  refine ex_iconst ok_X12_entry (mi 1 rfl) ?_
  refine ex_bipush ok_X12_entry (mi 2 rfl) ?_
  refine sf_Sp (As := [_, _, _]) ok_X12_entry (mi 3 rfl) rfl (s_in hst) rfl rfl rfl (by decide) (Nat.le_of_ble_eq_true rfl) (by decide) (fun z1 p2 => ?_)
  obtain ⟨b3, rfl, hb3⟩ := p2
  refine ex_istore ok_X12_entry (mi 4 rfl) ?_
  refine ex_aload_n ok_X12_entry (mi 5 rfl) rfl ?_
  refine ex_iload ok_X12_entry (mi 6 rfl) rfl ?_
  refine ex_if_eq (tgt := 34) ok_X12_entry (mi 7 rfl) rfl (fun h12 => ?_) (fun h12 => ?_)
  · skip
    obtain rfl : b3 = nI 0 := h12.trans (by decide)
    refine ex_iconst ok_X12_entry (mi 19 rfl) ?_
    refine ex_iconst ok_X12_entry (mi 20 rfl) ?_
    refine ex_iconst ok_X12_entry (mi 21 rfl) ?_
    refine sm_V (As := [_, _, _]) ok_X12_entry (mi 22 rfl) rfl (s_ref hst (MI_s I)) rfl (fk (MI_s I) 0 rfl) rfl rfl (by decide) (by decide) (Nat.le_of_ble_eq_true rfl) (by decide) RF_no (fun z4 g8 p5 => ?_)
    obtain ⟨b6, v7, eb6, egb6, hrb6⟩ := p5
    cases eb6
    subst egb6
    have J9 := MI_I (f := 1200) (v := v7) I (by decide)
    obtain rfl : b6 = nI 1 := hrb6.elim (fun q => absurd (show (nI 0 : Int32) = 0 by decide) q.2.1) (fun q => q.1.trans (by decide))
    refine ex_if_eq (tgt := 45) ok_X12_entry (mi 23 rfl) rfl (fun hn => absurd hn (by decide)) (fun _ => ?_)
    refine ex_iconst ok_X12_entry (mi 24 rfl) ?_
    refine ex_iret ok_X12_entry (mi 25 rfl) rfl ?_
    exact ⟨_, rfl, ⟨_, rfl⟩, J9⟩
  · skip
    obtain ⟨eb3, lb3, ub3⟩ := hb3.resolve_left (fun q => h12 q.1)
    obtain rfl : b3 = nI 1 := eb3.trans (by decide)
    obtain ⟨a10, ha10, rfl⟩ := in_n (n := 8) lb3 ub3 (by decide) rfl (by decide)
    refine ex_iload_n ok_X12_entry (mi 8 rfl) rfl ?_
    refine ex_iconst ok_X12_entry (mi 9 rfl) ?_
    refine ex_aload_n ok_X12_entry (mi 10 rfl) rfl ?_
    refine ex_iload_n ok_X12_entry (mi 11 rfl) rfl ?_
    refine sf_Vp (As := [_]) ok_X12_entry (mi 12 rfl) rfl (s_count hst (MI_s I) (by omega)) rfl (fk (MI_s I) 0 rfl) rfl rfl (by decide) (by decide) (Nat.le_of_ble_eq_true rfl) (by decide) (fun z11 p12 => ?_)
    subst p12
    have hce := ce_le (eF y (a10) g) 300 0
    refine ex_iconst ok_X12_entry (mi 13 rfl) ?_
    refine ex_isub ok_X12_entry (mi 14 rfl) ?_
    refine sf_Sp (As := [_, _, _]) ok_X12_entry (mi 15 rfl) rfl (s_in hst) rfl rfl rfl (by decide) (Nat.le_of_ble_eq_true rfl) (by decide) (fun z13 p14 => ?_)
    obtain ⟨b15, rfl, hb15⟩ := p14
    refine ex_if_eq (tgt := 34) ok_X12_entry (mi 16 rfl) rfl (fun h27 => ?_) (fun h27 => ?_)
    · skip
      obtain rfl : b15 = nI 0 := h27.trans (by decide)
      refine ex_iconst ok_X12_entry (mi 19 rfl) ?_
      refine ex_iconst ok_X12_entry (mi 20 rfl) ?_
      refine ex_iconst ok_X12_entry (mi 21 rfl) ?_
      refine sm_V (As := [_, _, _]) ok_X12_entry (mi 22 rfl) rfl (s_ref hst (MI_s I)) rfl (fk (MI_s I) 0 rfl) rfl rfl (by decide) (by decide) (Nat.le_of_ble_eq_true rfl) (by decide) RF_no (fun z16 g20 p17 => ?_)
      obtain ⟨b18, v19, eb18, egb18, hrb18⟩ := p17
      cases eb18
      subst egb18
      have J21 := MI_I (f := 1200) (v := v19) I (by decide)
      obtain rfl : b18 = nI 1 := hrb18.elim (fun q => absurd (show (nI 0 : Int32) = 0 by decide) q.2.1) (fun q => q.1.trans (by decide))
      refine ex_if_eq (tgt := 45) ok_X12_entry (mi 23 rfl) rfl (fun hn => absurd hn (by decide)) (fun _ => ?_)
      refine ex_iconst ok_X12_entry (mi 24 rfl) ?_
      refine ex_iret ok_X12_entry (mi 25 rfl) rfl ?_
      exact ⟨_, rfl, ⟨_, rfl⟩, J21⟩
    · skip
      obtain ⟨eb15, lb15, ub15⟩ := hb15.resolve_left (fun q => h27 q.1)
      obtain rfl : b15 = nI 1 := eb15.trans (by decide)
      obtain ⟨a22, ha22, rfl⟩ := in_m1 (n := ce (eF y (a10) g) 0 300) lb15 ub15 (by decide) (by omega)
      refine ex_iconst ok_X12_entry (mi 17 rfl) ?_
      refine ex_goto (tgt := 35) ok_X12_entry (mi 18 rfl) rfl ?_
      refine ex_iconst ok_X12_entry (mi 20 rfl) ?_
      refine ex_iconst ok_X12_entry (mi 21 rfl) ?_
      refine sm_V (As := [_, _, _]) ok_X12_entry (mi 22 rfl) rfl (s_ref hst (MI_s I)) rfl (fk (MI_s I) 0 rfl) rfl rfl (by decide) (by decide) (Nat.le_of_ble_eq_true rfl) (by decide) RF_no (fun z23 g27 p24 => ?_)
      obtain ⟨b25, v26, eb25, egb25, hrb25⟩ := p24
      cases eb25
      subst egb25
      have J28 := MI_I (f := 1200) (v := v26) I (by decide)
      refine ex_if_eq (tgt := 45) ok_X12_entry (mi 23 rfl) rfl (fun h40 => ?_) (fun h40 => ?_)
      · skip
        obtain rfl : b25 = nI 0 := h40.trans (by decide)
        have q29 := hrb25.resolve_right (fun q => absurd q.1 (by decide))
        refine ex_iload_n ok_X12_entry (mi 26 rfl) rfl ?_
        refine ex_istore ok_X12_entry (mi 27 rfl) ?_
        refine ex_iconst ok_X12_entry (mi 28 rfl) ?_
        refine ex_istore ok_X12_entry (mi 29 rfl) ?_
        exact ex_ls (ls' := [(0, .ref y), (1, .int (nI (a10))), (3, .int p2), (5, .int (nI (a22))), (6, .int (nI 0))]) ⟨rfl, rfl, rfl, rfl, rfl, trivial⟩ (ent51 J28 (by omega) 300 0 a22 rfl ha22)
      · skip
        refine ex_iconst ok_X12_entry (mi 24 rfl) ?_
        refine ex_iret ok_X12_entry (mi 25 rfl) rfl ?_
        exact ⟨_, rfl, ⟨_, rfl⟩, J28⟩
/-! ===== up: who is down ===== -/
def updD (D : UT) (i : Nat) (v : Int32) : UT := (fun j => if j = i then v else D.1 j, D.2)
theorem MC_dn {y : Nat} {D : UT} {C E R P : Nat → Prop} {g : GT} {i : Nat} {v : Int32} (h : MC y D C E R P g) : MC y (updD D i v) C E R P (px_A g (y + 1) i v) := by
  have hn : ∀ c, c ≠ 1 → ∀ j, gx_A (px_A g (y + 1) i v) (y + c) j = gx_A g (y + c) j := fun c hc j => pxA_n hc
  obtain ⟨h1, h2, h3, h4, h5, h6, h7⟩ := h
  refine ⟨shq (sqA sq0) h1, fun q hq j hj => ?_, fun l hl k => ?_, fun j hj k => ?_, fun j hj => ?_, fun j hj k => ?_, h7.trans (KFm_A ⟨by omega, by omega⟩)⟩
  · rw [hn q.1 (of_decide_eq_true (List.all_eq_true.mp (show BMt.all (fun q => decide (q.1 ≠ 1)) = true by decide) q hq))]; exact h2 q hq j hj
  · rw [hn 2 (by decide)] at k
    rw [hn 3 (by decide)]
    exact h3 l hl k
  · obtain ⟨κ, m, hk, hm⟩ := h4 j hj k
    exact ⟨κ, m, hk, MK_q hm (fun c c1 c2 => hn c (by omega))⟩
  · show gx_A (px_A g (y + 1) i v) (y + 1) j = if j = i then v else D.1 j
    rw [pxA_A]
    by_cases e : j = i
    · rw [if_pos e, if_pos e]
    · rw [if_neg e, if_neg e]; exact h5 j hj
  · rw [hn 49 (by decide)] at k
    rcases h6 j hj k with c | ⟨p, p1, p2, p3⟩
    · exact Or.inl c
    · exact Or.inr ⟨p, p1, p2, by rw [hn 48 (by decide)]; exact p3⟩
theorem MI_dn {y c i : Nat} {D : UT} {R : Nat → Prop} {g : GT} {v : Int32} (I : MI y D c R g) : MI y (updD D i v) c R (px_A g (y + 1) i v) := by
  obtain ⟨A, h1, h2, h3⟩ := I
  exact ⟨A, h1, h2, MC_dn h3⟩
theorem MI_D {y c : Nat} {D D' : UT} {R : Nat → Prop} {g : GT} (I : MI y D c R g) (h : ∀ i, i < 27 → D.1 i = D'.1 i) (h2 : D.2 = D'.2) : MI y D' c R g := by
  obtain ⟨A, a1, a2, i1, i2, i3, i4, i5, i6, i7⟩ := I
  exact ⟨A, a1, a2, i1, i2, i3, i4, fun i hi => (i5 i hi).trans (h i hi), i6, by rw [← h2]; exact i7⟩
theorem MI_dv {y c i : Nat} {D : UT} {R : Nat → Prop} {g : GT} (I : MI y D c R g) (hi : i < 27) : gx_A g (y + 1) i = D.1 i := by
  obtain ⟨A, a1, a2, i1, i2, i3, i4, i5, i6, i7⟩ := I
  exact i5 i hi
theorem m_mnodes0 {G : GE} (hst : (ge_l G).stackTraces = false) {h : GT} : ex_M G 1 0 0 my_X12_nodes [.int (nI 0)] h (rv (some (.int (nI 3))) h) := by
  refine ex_M_of ok_X12_nodes cw_X12_nodes rfl hst (Nat.le_of_ble_eq_true rfl) ?_
  refine ex_iload_n ok_X12_nodes (mi 0 rfl) rfl ?_
  refine ex_iconst ok_X12_nodes (mi 1 rfl) ?_
  refine ex_icmp_ne (tgt := 10) ok_X12_nodes (mi 2 rfl) rfl (fun _ => ?_) (fun hn => absurd hn (by decide))
  refine ex_iload_n ok_X12_nodes (mi 5 rfl) rfl ?_
  refine ex_iconst ok_X12_nodes (mi 6 rfl) ?_
  refine ex_icmp_ne (tgt := 20) ok_X12_nodes (mi 7 rfl) rfl (fun _ => ?_) (fun hn => absurd hn (by decide))
  refine ex_iconst ok_X12_nodes (mi 10 rfl) ?_
  refine ex_iret ok_X12_nodes (mi 11 rfl) rfl ?_
  exact ⟨inlI (by decide), rfl⟩
theorem x_mnodes0 {G : GE} (hst : (ge_l G).stackTraces = false) {g : GT} : ex_M G 1 0 0 my_X12_nodes [.int (nI 0)] g (SVp g (fun v => v = some (.int (nI 3)))) := ex_M.mono (m_mnodes0 hst) (fun r h q => ⟨_, q.1, rfl, q.2⟩)
theorem m_mnodes1 {G : GE} (hst : (ge_l G).stackTraces = false) {h : GT} : ex_M G 1 0 0 my_X12_nodes [.int (nI 1)] h (rv (some (.int (nI 9))) h) := by
  refine ex_M_of ok_X12_nodes cw_X12_nodes rfl hst (Nat.le_of_ble_eq_true rfl) ?_
  refine ex_iload_n ok_X12_nodes (mi 0 rfl) rfl ?_
  refine ex_iconst ok_X12_nodes (mi 1 rfl) ?_
  refine ex_icmp_ne (tgt := 10) ok_X12_nodes (mi 2 rfl) rfl (fun hn => absurd (by decide) hn) (fun _ => ?_)
  refine ex_bipush ok_X12_nodes (mi 3 rfl) ?_
  refine ex_goto (tgt := 21) ok_X12_nodes (mi 4 rfl) rfl ?_
  refine ex_iret ok_X12_nodes (mi 11 rfl) rfl ?_
  exact ⟨inlI (by decide), rfl⟩
theorem x_mnodes1 {G : GE} (hst : (ge_l G).stackTraces = false) {g : GT} : ex_M G 1 0 0 my_X12_nodes [.int (nI 1)] g (SVp g (fun v => v = some (.int (nI 9)))) := ex_M.mono (m_mnodes1 hst) (fun r h q => ⟨_, q.1, rfl, q.2⟩)
theorem m_mnodes2 {G : GE} (hst : (ge_l G).stackTraces = false) {h : GT} : ex_M G 1 0 0 my_X12_nodes [.int (nI 2)] h (rv (some (.int (nI 12))) h) := by
  refine ex_M_of ok_X12_nodes cw_X12_nodes rfl hst (Nat.le_of_ble_eq_true rfl) ?_
  refine ex_iload_n ok_X12_nodes (mi 0 rfl) rfl ?_
  refine ex_iconst ok_X12_nodes (mi 1 rfl) ?_
  refine ex_icmp_ne (tgt := 10) ok_X12_nodes (mi 2 rfl) rfl (fun _ => ?_) (fun hn => absurd hn (by decide))
  refine ex_iload_n ok_X12_nodes (mi 5 rfl) rfl ?_
  refine ex_iconst ok_X12_nodes (mi 6 rfl) ?_
  refine ex_icmp_ne (tgt := 20) ok_X12_nodes (mi 7 rfl) rfl (fun hn => absurd (by decide) hn) (fun _ => ?_)
  refine ex_bipush ok_X12_nodes (mi 8 rfl) ?_
  refine ex_goto (tgt := 21) ok_X12_nodes (mi 9 rfl) rfl ?_
  refine ex_iret ok_X12_nodes (mi 11 rfl) rfl ?_
  exact ⟨inlI (by decide), rfl⟩
theorem x_mnodes2 {G : GE} (hst : (ge_l G).stackTraces = false) {g : GT} : ex_M G 1 0 0 my_X12_nodes [.int (nI 2)] g (SVp g (fun v => v = some (.int (nI 12)))) := ex_M.mono (m_mnodes2 hst) (fun r h q => ⟨_, q.1, rfl, q.2⟩)
theorem m_mnodes3 {G : GE} (hst : (ge_l G).stackTraces = false) {h : GT} : ex_M G 1 0 0 my_X12_nodes [.int (nI 3)] h (rv (some (.int (nI 3))) h) := by
  refine ex_M_of ok_X12_nodes cw_X12_nodes rfl hst (Nat.le_of_ble_eq_true rfl) ?_
  refine ex_iload_n ok_X12_nodes (mi 0 rfl) rfl ?_
  refine ex_iconst ok_X12_nodes (mi 1 rfl) ?_
  refine ex_icmp_ne (tgt := 10) ok_X12_nodes (mi 2 rfl) rfl (fun _ => ?_) (fun hn => absurd hn (by decide))
  refine ex_iload_n ok_X12_nodes (mi 5 rfl) rfl ?_
  refine ex_iconst ok_X12_nodes (mi 6 rfl) ?_
  refine ex_icmp_ne (tgt := 20) ok_X12_nodes (mi 7 rfl) rfl (fun _ => ?_) (fun hn => absurd hn (by decide))
  refine ex_iconst ok_X12_nodes (mi 10 rfl) ?_
  refine ex_iret ok_X12_nodes (mi 11 rfl) rfl ?_
  exact ⟨inlI (by decide), rfl⟩
theorem x_mnodes3 {G : GE} (hst : (ge_l G).stackTraces = false) {g : GT} : ex_M G 1 0 0 my_X12_nodes [.int (nI 3)] g (SVp g (fun v => v = some (.int (nI 3)))) := ex_M.mono (m_mnodes3 hst) (fun r h q => ⟨_, q.1, rfl, q.2⟩)
theorem e_mup_0 {G : GE} (hst : (ge_l G).stackTraces = false) {y c j : Nat} {D : UT} {R : Nat → Prop} {g : GT} {p2 : Int32} (I : MI y D c R g) (hj : j < 3) : ex_M G 2 0 0 my_X12_up [.ref y, .int (nI 0), .int (nI j), .int p2] g (fun r g' => r = .inl (some (.int (if D.1 (0 + j) = 0 then nI 1 else nI 0))) ∧ gx_I g' 1200 y = 0 ∧ MI y (updD D (0 + j) (if p2 = 0 then nI 1 else nI 0)) c R g') := by
  refine ex_M_of ok_X12_up cw_X12_up rfl hst (Nat.le_of_ble_eq_true rfl) ?_
  refine ex_aload_n ok_X12_up (mi 0 rfl) rfl ?_
  refine ex_iload_n ok_X12_up (mi 1 rfl) rfl ?_
  refine ex_iconst ok_X12_up (mi 2 rfl) ?_
  refine ex_iconst ok_X12_up (mi 3 rfl) ?_
  refine sf_Sp (As := [_, _, _]) ok_X12_up (mi 4 rfl) rfl (s_in hst) rfl rfl rfl (by decide) (Nat.le_of_ble_eq_true rfl) (by decide) (fun z1 q1 => ?_)
  obtain ⟨b1, rfl, k1⟩ := q1
  obtain rfl : b1 = nI 1 := (k1.resolve_left (fun q => q.2.elim (fun q => absurd q (by decide)) (fun q => absurd q (by decide)))).1.trans (by decide)
  refine ex_if_eq (tgt := 28) ok_X12_up (mi 5 rfl) rfl (fun hn => absurd hn (by decide)) (fun _ => ?_)
  refine ex_iload_n ok_X12_up (mi 6 rfl) rfl ?_
  refine ex_iconst ok_X12_up (mi 7 rfl) ?_
  refine ex_iload_n ok_X12_up (mi 8 rfl) rfl ?_
  refine sf_Sp (As := [_]) ok_X12_up (mi 9 rfl) rfl (x_mnodes0 hst) rfl rfl rfl (by decide) (Nat.le_of_ble_eq_true rfl) (by decide) (fun z2 q2 => ?_)
  subst q2
  refine ex_iconst ok_X12_up (mi 10 rfl) ?_
  refine ex_isub ok_X12_up (mi 11 rfl) ?_
  refine ex_top (w := nI 2) (by decide) ?_
  refine sf_Sp (As := [_, _, _]) ok_X12_up (mi 12 rfl) rfl (s_in hst) rfl rfl rfl (by decide) (Nat.le_of_ble_eq_true rfl) (by decide) (fun z3 q3 => ?_)
  obtain ⟨b3, rfl, k3⟩ := q3
  obtain rfl : b3 = nI 1 := (k3.resolve_left (fun q => q.2.elim (fun q => absurd q (Int32.not_lt.mpr (show Int32.ofInt 0 ≤ nI j from nI_le (a := 0) (b := j) (Nat.zero_le _) (by omega)))) (fun q => absurd q (Int32.not_lt.mpr (nI_le (a := j) (b := 2) (by omega) (by decide)))))).1.trans (by decide)
  refine ex_if_eq (tgt := 28) ok_X12_up (mi 13 rfl) rfl (fun hn => absurd hn (by decide)) (fun _ => ?_)
  refine ex_iconst ok_X12_up (mi 14 rfl) ?_
  refine ex_goto (tgt := 29) ok_X12_up (mi 15 rfl) rfl ?_
  refine ex_iconst ok_X12_up (mi 17 rfl) ?_
  refine ex_iconst ok_X12_up (mi 18 rfl) ?_
  refine sm_V (As := [_, _, _]) ok_X12_up (mi 19 rfl) rfl (s_ref hst (MI_s I)) rfl (fk (MI_s I) 0 rfl) rfl rfl (by decide) (by decide) (Nat.le_of_ble_eq_true rfl) (by decide) RF_no (fun z4 g4 q4 => ?_)
  obtain ⟨b4, v4, e4, eg4, hr⟩ := q4
  cases e4
  subst eg4
  have I2 := MI_I (f := 1200) (v := v4) I (by decide)
  obtain ⟨rb, -, -, -, rv4⟩ := hr.resolve_right (fun q => by rcases q.2.2 with k | k | k <;> exact absurd k (by decide))
  obtain rfl : b4 = nI 0 := rb.trans (by decide)
  refine ex_if_eq (tgt := 39) ok_X12_up (mi 20 rfl) rfl (fun _ => ?_) (fun hn => absurd (by decide) hn)
  have S := MI_s I2
  refine ex_aload_n ok_X12_up (mi 23 rfl) rfl ?_
  refine ex_getRx ok_X12_up (mi 24 rfl) rfl rfl (fk S 0 rfl) (fr S 0 rfl) (fk S 1 rfl) (by decide) ?_
  refine ex_iload_n ok_X12_up (mi 25 rfl) rfl ?_
  refine sf_Sp (As := [_]) ok_X12_up (mi 26 rfl) rfl (x_first0 hst) rfl rfl rfl (by decide) (Nat.le_of_ble_eq_true rfl) (by decide) (fun z5 q5 => ?_)
  subst q5
  refine ex_iload_n ok_X12_up (mi 27 rfl) rfl ?_
  refine ex_iadd ok_X12_up (mi 28 rfl) ?_
  refine ex_top (w := nI (0 + j)) (nI_add 0 j) ?_
  refine sm_bal ok_X12_up (mi 29 rfl) (fk S 1 rfl) (fn S 1 rfl) rfl (by omega) (by decide) ?_
  refine ex_top (w := D.1 (0 + j)) (MI_dv I2 (by omega)) ?_
  by_cases hd : D.1 (0 + j) = 0
  · skip
    refine ex_if_ne (tgt := 57) ok_X12_up (mi 30 rfl) rfl (fun hn => absurd hd hn) (fun _ => ?_)
    refine ex_iconst ok_X12_up (mi 31 rfl) ?_
    refine ex_goto (tgt := 58) ok_X12_up (mi 32 rfl) rfl ?_
    refine ex_istore ok_X12_up (mi 34 rfl) ?_
    refine ex_aload_n ok_X12_up (mi 35 rfl) rfl ?_
    refine ex_getRx ok_X12_up (mi 36 rfl) rfl rfl (fk S 0 rfl) (fr S 0 rfl) (fk S 1 rfl) (by decide) ?_
    refine ex_iload_n ok_X12_up (mi 37 rfl) rfl ?_
    refine sf_Sp (As := [_]) ok_X12_up (mi 38 rfl) rfl (x_first0 hst) rfl rfl rfl (by decide) (Nat.le_of_ble_eq_true rfl) (by decide) (fun z6 q6 => ?_)
    subst q6
    refine ex_iload_n ok_X12_up (mi 39 rfl) rfl ?_
    refine ex_iadd ok_X12_up (mi 40 rfl) ?_
    refine ex_top (w := nI (0 + j)) (nI_add 0 j) ?_
    refine ex_iload_n ok_X12_up (mi 41 rfl) rfl ?_
    by_cases hp : p2 = 0
    · skip
      refine ex_if_ne (tgt := 78) ok_X12_up (mi 42 rfl) rfl (fun hn => absurd hp hn) (fun _ => ?_)
      refine ex_iconst ok_X12_up (mi 43 rfl) ?_
      refine ex_goto (tgt := 79) ok_X12_up (mi 44 rfl) rfl ?_
      refine sm_bast ok_X12_up (mi 46 rfl) (fk S 1 rfl) (fn S 1 rfl) rfl (by omega) (by decide) (Or.inr (by decide)) ?_
      refine ex_iload ok_X12_up (mi 47 rfl) rfl ?_
      refine ex_zret ok_X12_up (mi 48 rfl) rfl (by decide) ?_
      exact ⟨by rw [if_pos hd]; rfl, (show gx_I (px_I g 1200 y v4) 1200 y = 0 by rw [gxI_I, if_pos ⟨rfl, rfl⟩]; exact rv4), by rw [if_pos hp]; exact MI_dn I2⟩
    · skip
      refine ex_if_ne (tgt := 78) ok_X12_up (mi 42 rfl) rfl (fun _ => ?_) (fun hn => absurd hn hp)
      refine ex_iconst ok_X12_up (mi 45 rfl) ?_
      refine sm_bast ok_X12_up (mi 46 rfl) (fk S 1 rfl) (fn S 1 rfl) rfl (by omega) (by decide) (Or.inl (by decide)) ?_
      refine ex_iload ok_X12_up (mi 47 rfl) rfl ?_
      refine ex_zret ok_X12_up (mi 48 rfl) rfl (by decide) ?_
      exact ⟨by rw [if_pos hd]; rfl, (show gx_I (px_I g 1200 y v4) 1200 y = 0 by rw [gxI_I, if_pos ⟨rfl, rfl⟩]; exact rv4), by rw [if_neg hp]; exact MI_dn I2⟩
  · skip
    refine ex_if_ne (tgt := 57) ok_X12_up (mi 30 rfl) rfl (fun _ => ?_) (fun hn => absurd hn hd)
    refine ex_iconst ok_X12_up (mi 33 rfl) ?_
    refine ex_istore ok_X12_up (mi 34 rfl) ?_
    refine ex_aload_n ok_X12_up (mi 35 rfl) rfl ?_
    refine ex_getRx ok_X12_up (mi 36 rfl) rfl rfl (fk S 0 rfl) (fr S 0 rfl) (fk S 1 rfl) (by decide) ?_
    refine ex_iload_n ok_X12_up (mi 37 rfl) rfl ?_
    refine sf_Sp (As := [_]) ok_X12_up (mi 38 rfl) rfl (x_first0 hst) rfl rfl rfl (by decide) (Nat.le_of_ble_eq_true rfl) (by decide) (fun z6 q6 => ?_)
    subst q6
    refine ex_iload_n ok_X12_up (mi 39 rfl) rfl ?_
    refine ex_iadd ok_X12_up (mi 40 rfl) ?_
    refine ex_top (w := nI (0 + j)) (nI_add 0 j) ?_
    refine ex_iload_n ok_X12_up (mi 41 rfl) rfl ?_
    by_cases hp : p2 = 0
    · skip
      refine ex_if_ne (tgt := 78) ok_X12_up (mi 42 rfl) rfl (fun hn => absurd hp hn) (fun _ => ?_)
      refine ex_iconst ok_X12_up (mi 43 rfl) ?_
      refine ex_goto (tgt := 79) ok_X12_up (mi 44 rfl) rfl ?_
      refine sm_bast ok_X12_up (mi 46 rfl) (fk S 1 rfl) (fn S 1 rfl) rfl (by omega) (by decide) (Or.inr (by decide)) ?_
      refine ex_iload ok_X12_up (mi 47 rfl) rfl ?_
      refine ex_zret ok_X12_up (mi 48 rfl) rfl (by decide) ?_
      exact ⟨by rw [if_neg hd]; rfl, (show gx_I (px_I g 1200 y v4) 1200 y = 0 by rw [gxI_I, if_pos ⟨rfl, rfl⟩]; exact rv4), by rw [if_pos hp]; exact MI_dn I2⟩
    · skip
      refine ex_if_ne (tgt := 78) ok_X12_up (mi 42 rfl) rfl (fun _ => ?_) (fun hn => absurd hn hp)
      refine ex_iconst ok_X12_up (mi 45 rfl) ?_
      refine sm_bast ok_X12_up (mi 46 rfl) (fk S 1 rfl) (fn S 1 rfl) rfl (by omega) (by decide) (Or.inl (by decide)) ?_
      refine ex_iload ok_X12_up (mi 47 rfl) rfl ?_
      refine ex_zret ok_X12_up (mi 48 rfl) rfl (by decide) ?_
      exact ⟨by rw [if_neg hd]; rfl, (show gx_I (px_I g 1200 y v4) 1200 y = 0 by rw [gxI_I, if_pos ⟨rfl, rfl⟩]; exact rv4), by rw [if_neg hp]; exact MI_dn I2⟩
theorem e_mup_0_b {G : GE} (hst : (ge_l G).stackTraces = false) {y c : Nat} {D : UT} {R : Nat → Prop} {g : GT} {p1 p2 : Int32} (I : MI y D c R g) (c1 : ¬ vp_in p1 3) : ex_M G 2 0 0 my_X12_up [.ref y, .int (nI 0), .int p1, .int p2] g (fun r g' => r = .inl (some (.int (nI 0))) ∧ gx_I g' 1200 y = 1 ∧ MI y D c R g') := by
  refine ex_M_of ok_X12_up cw_X12_up rfl hst (Nat.le_of_ble_eq_true rfl) ?_
  refine ex_aload_n ok_X12_up (mi 0 rfl) rfl ?_
  refine ex_iload_n ok_X12_up (mi 1 rfl) rfl ?_
  refine ex_iconst ok_X12_up (mi 2 rfl) ?_
  refine ex_iconst ok_X12_up (mi 3 rfl) ?_
  refine sf_Sp (As := [_, _, _]) ok_X12_up (mi 4 rfl) rfl (s_in hst) rfl rfl rfl (by decide) (Nat.le_of_ble_eq_true rfl) (by decide) (fun z1 q1 => ?_)
  obtain ⟨b1, rfl, k1⟩ := q1
  obtain rfl : b1 = nI 1 := (k1.resolve_left (fun q => q.2.elim (fun q => absurd q (by decide)) (fun q => absurd q (by decide)))).1.trans (by decide)
  refine ex_if_eq (tgt := 28) ok_X12_up (mi 5 rfl) rfl (fun hn => absurd hn (by decide)) (fun _ => ?_)
  refine ex_iload_n ok_X12_up (mi 6 rfl) rfl ?_
  refine ex_iconst ok_X12_up (mi 7 rfl) ?_
  refine ex_iload_n ok_X12_up (mi 8 rfl) rfl ?_
  refine sf_Sp (As := [_]) ok_X12_up (mi 9 rfl) rfl (x_mnodes0 hst) rfl rfl rfl (by decide) (Nat.le_of_ble_eq_true rfl) (by decide) (fun z2 q2 => ?_)
  subst q2
  refine ex_iconst ok_X12_up (mi 10 rfl) ?_
  refine ex_isub ok_X12_up (mi 11 rfl) ?_
  refine ex_top (w := nI 2) (by decide) ?_
  refine sf_Sp (As := [_, _, _]) ok_X12_up (mi 12 rfl) rfl (s_in hst) rfl rfl rfl (by decide) (Nat.le_of_ble_eq_true rfl) (by decide) (fun z3 q3 => ?_)
  obtain ⟨b3, rfl, k3⟩ := q3
  obtain rfl : b3 = nI 0 := (k3.resolve_right (fun q => by
    obtain ⟨a, ha, rfl⟩ := in_n (n := 2) q.2.1 q.2.2 (by decide) rfl (by decide)
    exact c1 (vp_in_nI ha (by decide)))).1.trans (by decide)
  refine ex_if_eq (tgt := 28) ok_X12_up (mi 13 rfl) rfl (fun _ => ?_) (fun hn => absurd (by decide) hn)
  refine ex_iconst ok_X12_up (mi 16 rfl) ?_
  refine ex_iconst ok_X12_up (mi 17 rfl) ?_
  refine ex_iconst ok_X12_up (mi 18 rfl) ?_
  refine sm_V (As := [_, _, _]) ok_X12_up (mi 19 rfl) rfl (s_ref hst (MI_s I)) rfl (fk (MI_s I) 0 rfl) rfl rfl (by decide) (by decide) (Nat.le_of_ble_eq_true rfl) (by decide) RF_no (fun z4 g4 q4 => ?_)
  obtain ⟨b4, v4, e4, eg4, hr⟩ := q4
  cases e4
  subst eg4
  have I2 := MI_I (f := 1200) (v := v4) I (by decide)
  obtain ⟨rb, rv4, -⟩ := hr.resolve_left (fun q => absurd (by decide) q.2.1)
  obtain rfl : b4 = nI 1 := rb.trans (by decide)
  refine ex_if_eq (tgt := 39) ok_X12_up (mi 20 rfl) rfl (fun hn => absurd hn (by decide)) (fun _ => ?_)
  refine ex_iconst ok_X12_up (mi 21 rfl) ?_
  refine ex_zret ok_X12_up (mi 22 rfl) rfl (by decide) ?_
  exact ⟨rfl, by rw [gxI_I, if_pos ⟨rfl, rfl⟩]; exact rv4 (by decide), I2⟩
theorem e_mup_1 {G : GE} (hst : (ge_l G).stackTraces = false) {y c j : Nat} {D : UT} {R : Nat → Prop} {g : GT} {p2 : Int32} (I : MI y D c R g) (hj : j < 9) : ex_M G 2 0 0 my_X12_up [.ref y, .int (nI 1), .int (nI j), .int p2] g (fun r g' => r = .inl (some (.int (if D.1 (3 + j) = 0 then nI 1 else nI 0))) ∧ gx_I g' 1200 y = 0 ∧ MI y (updD D (3 + j) (if p2 = 0 then nI 1 else nI 0)) c R g') := by
  refine ex_M_of ok_X12_up cw_X12_up rfl hst (Nat.le_of_ble_eq_true rfl) ?_
  refine ex_aload_n ok_X12_up (mi 0 rfl) rfl ?_
  refine ex_iload_n ok_X12_up (mi 1 rfl) rfl ?_
  refine ex_iconst ok_X12_up (mi 2 rfl) ?_
  refine ex_iconst ok_X12_up (mi 3 rfl) ?_
  refine sf_Sp (As := [_, _, _]) ok_X12_up (mi 4 rfl) rfl (s_in hst) rfl rfl rfl (by decide) (Nat.le_of_ble_eq_true rfl) (by decide) (fun z1 q1 => ?_)
  obtain ⟨b1, rfl, k1⟩ := q1
  obtain rfl : b1 = nI 1 := (k1.resolve_left (fun q => q.2.elim (fun q => absurd q (by decide)) (fun q => absurd q (by decide)))).1.trans (by decide)
  refine ex_if_eq (tgt := 28) ok_X12_up (mi 5 rfl) rfl (fun hn => absurd hn (by decide)) (fun _ => ?_)
  refine ex_iload_n ok_X12_up (mi 6 rfl) rfl ?_
  refine ex_iconst ok_X12_up (mi 7 rfl) ?_
  refine ex_iload_n ok_X12_up (mi 8 rfl) rfl ?_
  refine sf_Sp (As := [_]) ok_X12_up (mi 9 rfl) rfl (x_mnodes1 hst) rfl rfl rfl (by decide) (Nat.le_of_ble_eq_true rfl) (by decide) (fun z2 q2 => ?_)
  subst q2
  refine ex_iconst ok_X12_up (mi 10 rfl) ?_
  refine ex_isub ok_X12_up (mi 11 rfl) ?_
  refine ex_top (w := nI 8) (by decide) ?_
  refine sf_Sp (As := [_, _, _]) ok_X12_up (mi 12 rfl) rfl (s_in hst) rfl rfl rfl (by decide) (Nat.le_of_ble_eq_true rfl) (by decide) (fun z3 q3 => ?_)
  obtain ⟨b3, rfl, k3⟩ := q3
  obtain rfl : b3 = nI 1 := (k3.resolve_left (fun q => q.2.elim (fun q => absurd q (Int32.not_lt.mpr (show Int32.ofInt 0 ≤ nI j from nI_le (a := 0) (b := j) (Nat.zero_le _) (by omega)))) (fun q => absurd q (Int32.not_lt.mpr (nI_le (a := j) (b := 8) (by omega) (by decide)))))).1.trans (by decide)
  refine ex_if_eq (tgt := 28) ok_X12_up (mi 13 rfl) rfl (fun hn => absurd hn (by decide)) (fun _ => ?_)
  refine ex_iconst ok_X12_up (mi 14 rfl) ?_
  refine ex_goto (tgt := 29) ok_X12_up (mi 15 rfl) rfl ?_
  refine ex_iconst ok_X12_up (mi 17 rfl) ?_
  refine ex_iconst ok_X12_up (mi 18 rfl) ?_
  refine sm_V (As := [_, _, _]) ok_X12_up (mi 19 rfl) rfl (s_ref hst (MI_s I)) rfl (fk (MI_s I) 0 rfl) rfl rfl (by decide) (by decide) (Nat.le_of_ble_eq_true rfl) (by decide) RF_no (fun z4 g4 q4 => ?_)
  obtain ⟨b4, v4, e4, eg4, hr⟩ := q4
  cases e4
  subst eg4
  have I2 := MI_I (f := 1200) (v := v4) I (by decide)
  obtain ⟨rb, -, -, -, rv4⟩ := hr.resolve_right (fun q => by rcases q.2.2 with k | k | k <;> exact absurd k (by decide))
  obtain rfl : b4 = nI 0 := rb.trans (by decide)
  refine ex_if_eq (tgt := 39) ok_X12_up (mi 20 rfl) rfl (fun _ => ?_) (fun hn => absurd (by decide) hn)
  have S := MI_s I2
  refine ex_aload_n ok_X12_up (mi 23 rfl) rfl ?_
  refine ex_getRx ok_X12_up (mi 24 rfl) rfl rfl (fk S 0 rfl) (fr S 0 rfl) (fk S 1 rfl) (by decide) ?_
  refine ex_iload_n ok_X12_up (mi 25 rfl) rfl ?_
  refine sf_Sp (As := [_]) ok_X12_up (mi 26 rfl) rfl (x_first1 hst) rfl rfl rfl (by decide) (Nat.le_of_ble_eq_true rfl) (by decide) (fun z5 q5 => ?_)
  subst q5
  refine ex_iload_n ok_X12_up (mi 27 rfl) rfl ?_
  refine ex_iadd ok_X12_up (mi 28 rfl) ?_
  refine ex_top (w := nI (3 + j)) (nI_add 3 j) ?_
  refine sm_bal ok_X12_up (mi 29 rfl) (fk S 1 rfl) (fn S 1 rfl) rfl (by omega) (by decide) ?_
  refine ex_top (w := D.1 (3 + j)) (MI_dv I2 (by omega)) ?_
  by_cases hd : D.1 (3 + j) = 0
  · skip
    refine ex_if_ne (tgt := 57) ok_X12_up (mi 30 rfl) rfl (fun hn => absurd hd hn) (fun _ => ?_)
    refine ex_iconst ok_X12_up (mi 31 rfl) ?_
    refine ex_goto (tgt := 58) ok_X12_up (mi 32 rfl) rfl ?_
    refine ex_istore ok_X12_up (mi 34 rfl) ?_
    refine ex_aload_n ok_X12_up (mi 35 rfl) rfl ?_
    refine ex_getRx ok_X12_up (mi 36 rfl) rfl rfl (fk S 0 rfl) (fr S 0 rfl) (fk S 1 rfl) (by decide) ?_
    refine ex_iload_n ok_X12_up (mi 37 rfl) rfl ?_
    refine sf_Sp (As := [_]) ok_X12_up (mi 38 rfl) rfl (x_first1 hst) rfl rfl rfl (by decide) (Nat.le_of_ble_eq_true rfl) (by decide) (fun z6 q6 => ?_)
    subst q6
    refine ex_iload_n ok_X12_up (mi 39 rfl) rfl ?_
    refine ex_iadd ok_X12_up (mi 40 rfl) ?_
    refine ex_top (w := nI (3 + j)) (nI_add 3 j) ?_
    refine ex_iload_n ok_X12_up (mi 41 rfl) rfl ?_
    by_cases hp : p2 = 0
    · skip
      refine ex_if_ne (tgt := 78) ok_X12_up (mi 42 rfl) rfl (fun hn => absurd hp hn) (fun _ => ?_)
      refine ex_iconst ok_X12_up (mi 43 rfl) ?_
      refine ex_goto (tgt := 79) ok_X12_up (mi 44 rfl) rfl ?_
      refine sm_bast ok_X12_up (mi 46 rfl) (fk S 1 rfl) (fn S 1 rfl) rfl (by omega) (by decide) (Or.inr (by decide)) ?_
      refine ex_iload ok_X12_up (mi 47 rfl) rfl ?_
      refine ex_zret ok_X12_up (mi 48 rfl) rfl (by decide) ?_
      exact ⟨by rw [if_pos hd]; rfl, (show gx_I (px_I g 1200 y v4) 1200 y = 0 by rw [gxI_I, if_pos ⟨rfl, rfl⟩]; exact rv4), by rw [if_pos hp]; exact MI_dn I2⟩
    · skip
      refine ex_if_ne (tgt := 78) ok_X12_up (mi 42 rfl) rfl (fun _ => ?_) (fun hn => absurd hn hp)
      refine ex_iconst ok_X12_up (mi 45 rfl) ?_
      refine sm_bast ok_X12_up (mi 46 rfl) (fk S 1 rfl) (fn S 1 rfl) rfl (by omega) (by decide) (Or.inl (by decide)) ?_
      refine ex_iload ok_X12_up (mi 47 rfl) rfl ?_
      refine ex_zret ok_X12_up (mi 48 rfl) rfl (by decide) ?_
      exact ⟨by rw [if_pos hd]; rfl, (show gx_I (px_I g 1200 y v4) 1200 y = 0 by rw [gxI_I, if_pos ⟨rfl, rfl⟩]; exact rv4), by rw [if_neg hp]; exact MI_dn I2⟩
  · skip
    refine ex_if_ne (tgt := 57) ok_X12_up (mi 30 rfl) rfl (fun _ => ?_) (fun hn => absurd hn hd)
    refine ex_iconst ok_X12_up (mi 33 rfl) ?_
    refine ex_istore ok_X12_up (mi 34 rfl) ?_
    refine ex_aload_n ok_X12_up (mi 35 rfl) rfl ?_
    refine ex_getRx ok_X12_up (mi 36 rfl) rfl rfl (fk S 0 rfl) (fr S 0 rfl) (fk S 1 rfl) (by decide) ?_
    refine ex_iload_n ok_X12_up (mi 37 rfl) rfl ?_
    refine sf_Sp (As := [_]) ok_X12_up (mi 38 rfl) rfl (x_first1 hst) rfl rfl rfl (by decide) (Nat.le_of_ble_eq_true rfl) (by decide) (fun z6 q6 => ?_)
    subst q6
    refine ex_iload_n ok_X12_up (mi 39 rfl) rfl ?_
    refine ex_iadd ok_X12_up (mi 40 rfl) ?_
    refine ex_top (w := nI (3 + j)) (nI_add 3 j) ?_
    refine ex_iload_n ok_X12_up (mi 41 rfl) rfl ?_
    by_cases hp : p2 = 0
    · skip
      refine ex_if_ne (tgt := 78) ok_X12_up (mi 42 rfl) rfl (fun hn => absurd hp hn) (fun _ => ?_)
      refine ex_iconst ok_X12_up (mi 43 rfl) ?_
      refine ex_goto (tgt := 79) ok_X12_up (mi 44 rfl) rfl ?_
      refine sm_bast ok_X12_up (mi 46 rfl) (fk S 1 rfl) (fn S 1 rfl) rfl (by omega) (by decide) (Or.inr (by decide)) ?_
      refine ex_iload ok_X12_up (mi 47 rfl) rfl ?_
      refine ex_zret ok_X12_up (mi 48 rfl) rfl (by decide) ?_
      exact ⟨by rw [if_neg hd]; rfl, (show gx_I (px_I g 1200 y v4) 1200 y = 0 by rw [gxI_I, if_pos ⟨rfl, rfl⟩]; exact rv4), by rw [if_pos hp]; exact MI_dn I2⟩
    · skip
      refine ex_if_ne (tgt := 78) ok_X12_up (mi 42 rfl) rfl (fun _ => ?_) (fun hn => absurd hn hp)
      refine ex_iconst ok_X12_up (mi 45 rfl) ?_
      refine sm_bast ok_X12_up (mi 46 rfl) (fk S 1 rfl) (fn S 1 rfl) rfl (by omega) (by decide) (Or.inl (by decide)) ?_
      refine ex_iload ok_X12_up (mi 47 rfl) rfl ?_
      refine ex_zret ok_X12_up (mi 48 rfl) rfl (by decide) ?_
      exact ⟨by rw [if_neg hd]; rfl, (show gx_I (px_I g 1200 y v4) 1200 y = 0 by rw [gxI_I, if_pos ⟨rfl, rfl⟩]; exact rv4), by rw [if_neg hp]; exact MI_dn I2⟩
theorem e_mup_1_b {G : GE} (hst : (ge_l G).stackTraces = false) {y c : Nat} {D : UT} {R : Nat → Prop} {g : GT} {p1 p2 : Int32} (I : MI y D c R g) (c1 : ¬ vp_in p1 9) : ex_M G 2 0 0 my_X12_up [.ref y, .int (nI 1), .int p1, .int p2] g (fun r g' => r = .inl (some (.int (nI 0))) ∧ gx_I g' 1200 y = 1 ∧ MI y D c R g') := by
  refine ex_M_of ok_X12_up cw_X12_up rfl hst (Nat.le_of_ble_eq_true rfl) ?_
  refine ex_aload_n ok_X12_up (mi 0 rfl) rfl ?_
  refine ex_iload_n ok_X12_up (mi 1 rfl) rfl ?_
  refine ex_iconst ok_X12_up (mi 2 rfl) ?_
  refine ex_iconst ok_X12_up (mi 3 rfl) ?_
  refine sf_Sp (As := [_, _, _]) ok_X12_up (mi 4 rfl) rfl (s_in hst) rfl rfl rfl (by decide) (Nat.le_of_ble_eq_true rfl) (by decide) (fun z1 q1 => ?_)
  obtain ⟨b1, rfl, k1⟩ := q1
  obtain rfl : b1 = nI 1 := (k1.resolve_left (fun q => q.2.elim (fun q => absurd q (by decide)) (fun q => absurd q (by decide)))).1.trans (by decide)
  refine ex_if_eq (tgt := 28) ok_X12_up (mi 5 rfl) rfl (fun hn => absurd hn (by decide)) (fun _ => ?_)
  refine ex_iload_n ok_X12_up (mi 6 rfl) rfl ?_
  refine ex_iconst ok_X12_up (mi 7 rfl) ?_
  refine ex_iload_n ok_X12_up (mi 8 rfl) rfl ?_
  refine sf_Sp (As := [_]) ok_X12_up (mi 9 rfl) rfl (x_mnodes1 hst) rfl rfl rfl (by decide) (Nat.le_of_ble_eq_true rfl) (by decide) (fun z2 q2 => ?_)
  subst q2
  refine ex_iconst ok_X12_up (mi 10 rfl) ?_
  refine ex_isub ok_X12_up (mi 11 rfl) ?_
  refine ex_top (w := nI 8) (by decide) ?_
  refine sf_Sp (As := [_, _, _]) ok_X12_up (mi 12 rfl) rfl (s_in hst) rfl rfl rfl (by decide) (Nat.le_of_ble_eq_true rfl) (by decide) (fun z3 q3 => ?_)
  obtain ⟨b3, rfl, k3⟩ := q3
  obtain rfl : b3 = nI 0 := (k3.resolve_right (fun q => by
    obtain ⟨a, ha, rfl⟩ := in_n (n := 8) q.2.1 q.2.2 (by decide) rfl (by decide)
    exact c1 (vp_in_nI ha (by decide)))).1.trans (by decide)
  refine ex_if_eq (tgt := 28) ok_X12_up (mi 13 rfl) rfl (fun _ => ?_) (fun hn => absurd (by decide) hn)
  refine ex_iconst ok_X12_up (mi 16 rfl) ?_
  refine ex_iconst ok_X12_up (mi 17 rfl) ?_
  refine ex_iconst ok_X12_up (mi 18 rfl) ?_
  refine sm_V (As := [_, _, _]) ok_X12_up (mi 19 rfl) rfl (s_ref hst (MI_s I)) rfl (fk (MI_s I) 0 rfl) rfl rfl (by decide) (by decide) (Nat.le_of_ble_eq_true rfl) (by decide) RF_no (fun z4 g4 q4 => ?_)
  obtain ⟨b4, v4, e4, eg4, hr⟩ := q4
  cases e4
  subst eg4
  have I2 := MI_I (f := 1200) (v := v4) I (by decide)
  obtain ⟨rb, rv4, -⟩ := hr.resolve_left (fun q => absurd (by decide) q.2.1)
  obtain rfl : b4 = nI 1 := rb.trans (by decide)
  refine ex_if_eq (tgt := 39) ok_X12_up (mi 20 rfl) rfl (fun hn => absurd hn (by decide)) (fun _ => ?_)
  refine ex_iconst ok_X12_up (mi 21 rfl) ?_
  refine ex_zret ok_X12_up (mi 22 rfl) rfl (by decide) ?_
  exact ⟨rfl, by rw [gxI_I, if_pos ⟨rfl, rfl⟩]; exact rv4 (by decide), I2⟩
theorem e_mup_2 {G : GE} (hst : (ge_l G).stackTraces = false) {y c j : Nat} {D : UT} {R : Nat → Prop} {g : GT} {p2 : Int32} (I : MI y D c R g) (hj : j < 12) : ex_M G 2 0 0 my_X12_up [.ref y, .int (nI 2), .int (nI j), .int p2] g (fun r g' => r = .inl (some (.int (if D.1 (12 + j) = 0 then nI 1 else nI 0))) ∧ gx_I g' 1200 y = 0 ∧ MI y (updD D (12 + j) (if p2 = 0 then nI 1 else nI 0)) c R g') := by
  refine ex_M_of ok_X12_up cw_X12_up rfl hst (Nat.le_of_ble_eq_true rfl) ?_
  refine ex_aload_n ok_X12_up (mi 0 rfl) rfl ?_
  refine ex_iload_n ok_X12_up (mi 1 rfl) rfl ?_
  refine ex_iconst ok_X12_up (mi 2 rfl) ?_
  refine ex_iconst ok_X12_up (mi 3 rfl) ?_
  refine sf_Sp (As := [_, _, _]) ok_X12_up (mi 4 rfl) rfl (s_in hst) rfl rfl rfl (by decide) (Nat.le_of_ble_eq_true rfl) (by decide) (fun z1 q1 => ?_)
  obtain ⟨b1, rfl, k1⟩ := q1
  obtain rfl : b1 = nI 1 := (k1.resolve_left (fun q => q.2.elim (fun q => absurd q (by decide)) (fun q => absurd q (by decide)))).1.trans (by decide)
  refine ex_if_eq (tgt := 28) ok_X12_up (mi 5 rfl) rfl (fun hn => absurd hn (by decide)) (fun _ => ?_)
  refine ex_iload_n ok_X12_up (mi 6 rfl) rfl ?_
  refine ex_iconst ok_X12_up (mi 7 rfl) ?_
  refine ex_iload_n ok_X12_up (mi 8 rfl) rfl ?_
  refine sf_Sp (As := [_]) ok_X12_up (mi 9 rfl) rfl (x_mnodes2 hst) rfl rfl rfl (by decide) (Nat.le_of_ble_eq_true rfl) (by decide) (fun z2 q2 => ?_)
  subst q2
  refine ex_iconst ok_X12_up (mi 10 rfl) ?_
  refine ex_isub ok_X12_up (mi 11 rfl) ?_
  refine ex_top (w := nI 11) (by decide) ?_
  refine sf_Sp (As := [_, _, _]) ok_X12_up (mi 12 rfl) rfl (s_in hst) rfl rfl rfl (by decide) (Nat.le_of_ble_eq_true rfl) (by decide) (fun z3 q3 => ?_)
  obtain ⟨b3, rfl, k3⟩ := q3
  obtain rfl : b3 = nI 1 := (k3.resolve_left (fun q => q.2.elim (fun q => absurd q (Int32.not_lt.mpr (show Int32.ofInt 0 ≤ nI j from nI_le (a := 0) (b := j) (Nat.zero_le _) (by omega)))) (fun q => absurd q (Int32.not_lt.mpr (nI_le (a := j) (b := 11) (by omega) (by decide)))))).1.trans (by decide)
  refine ex_if_eq (tgt := 28) ok_X12_up (mi 13 rfl) rfl (fun hn => absurd hn (by decide)) (fun _ => ?_)
  refine ex_iconst ok_X12_up (mi 14 rfl) ?_
  refine ex_goto (tgt := 29) ok_X12_up (mi 15 rfl) rfl ?_
  refine ex_iconst ok_X12_up (mi 17 rfl) ?_
  refine ex_iconst ok_X12_up (mi 18 rfl) ?_
  refine sm_V (As := [_, _, _]) ok_X12_up (mi 19 rfl) rfl (s_ref hst (MI_s I)) rfl (fk (MI_s I) 0 rfl) rfl rfl (by decide) (by decide) (Nat.le_of_ble_eq_true rfl) (by decide) RF_no (fun z4 g4 q4 => ?_)
  obtain ⟨b4, v4, e4, eg4, hr⟩ := q4
  cases e4
  subst eg4
  have I2 := MI_I (f := 1200) (v := v4) I (by decide)
  obtain ⟨rb, -, -, -, rv4⟩ := hr.resolve_right (fun q => by rcases q.2.2 with k | k | k <;> exact absurd k (by decide))
  obtain rfl : b4 = nI 0 := rb.trans (by decide)
  refine ex_if_eq (tgt := 39) ok_X12_up (mi 20 rfl) rfl (fun _ => ?_) (fun hn => absurd (by decide) hn)
  have S := MI_s I2
  refine ex_aload_n ok_X12_up (mi 23 rfl) rfl ?_
  refine ex_getRx ok_X12_up (mi 24 rfl) rfl rfl (fk S 0 rfl) (fr S 0 rfl) (fk S 1 rfl) (by decide) ?_
  refine ex_iload_n ok_X12_up (mi 25 rfl) rfl ?_
  refine sf_Sp (As := [_]) ok_X12_up (mi 26 rfl) rfl (x_first2 hst) rfl rfl rfl (by decide) (Nat.le_of_ble_eq_true rfl) (by decide) (fun z5 q5 => ?_)
  subst q5
  refine ex_iload_n ok_X12_up (mi 27 rfl) rfl ?_
  refine ex_iadd ok_X12_up (mi 28 rfl) ?_
  refine ex_top (w := nI (12 + j)) (nI_add 12 j) ?_
  refine sm_bal ok_X12_up (mi 29 rfl) (fk S 1 rfl) (fn S 1 rfl) rfl (by omega) (by decide) ?_
  refine ex_top (w := D.1 (12 + j)) (MI_dv I2 (by omega)) ?_
  by_cases hd : D.1 (12 + j) = 0
  · skip
    refine ex_if_ne (tgt := 57) ok_X12_up (mi 30 rfl) rfl (fun hn => absurd hd hn) (fun _ => ?_)
    refine ex_iconst ok_X12_up (mi 31 rfl) ?_
    refine ex_goto (tgt := 58) ok_X12_up (mi 32 rfl) rfl ?_
    refine ex_istore ok_X12_up (mi 34 rfl) ?_
    refine ex_aload_n ok_X12_up (mi 35 rfl) rfl ?_
    refine ex_getRx ok_X12_up (mi 36 rfl) rfl rfl (fk S 0 rfl) (fr S 0 rfl) (fk S 1 rfl) (by decide) ?_
    refine ex_iload_n ok_X12_up (mi 37 rfl) rfl ?_
    refine sf_Sp (As := [_]) ok_X12_up (mi 38 rfl) rfl (x_first2 hst) rfl rfl rfl (by decide) (Nat.le_of_ble_eq_true rfl) (by decide) (fun z6 q6 => ?_)
    subst q6
    refine ex_iload_n ok_X12_up (mi 39 rfl) rfl ?_
    refine ex_iadd ok_X12_up (mi 40 rfl) ?_
    refine ex_top (w := nI (12 + j)) (nI_add 12 j) ?_
    refine ex_iload_n ok_X12_up (mi 41 rfl) rfl ?_
    by_cases hp : p2 = 0
    · skip
      refine ex_if_ne (tgt := 78) ok_X12_up (mi 42 rfl) rfl (fun hn => absurd hp hn) (fun _ => ?_)
      refine ex_iconst ok_X12_up (mi 43 rfl) ?_
      refine ex_goto (tgt := 79) ok_X12_up (mi 44 rfl) rfl ?_
      refine sm_bast ok_X12_up (mi 46 rfl) (fk S 1 rfl) (fn S 1 rfl) rfl (by omega) (by decide) (Or.inr (by decide)) ?_
      refine ex_iload ok_X12_up (mi 47 rfl) rfl ?_
      refine ex_zret ok_X12_up (mi 48 rfl) rfl (by decide) ?_
      exact ⟨by rw [if_pos hd]; rfl, (show gx_I (px_I g 1200 y v4) 1200 y = 0 by rw [gxI_I, if_pos ⟨rfl, rfl⟩]; exact rv4), by rw [if_pos hp]; exact MI_dn I2⟩
    · skip
      refine ex_if_ne (tgt := 78) ok_X12_up (mi 42 rfl) rfl (fun _ => ?_) (fun hn => absurd hn hp)
      refine ex_iconst ok_X12_up (mi 45 rfl) ?_
      refine sm_bast ok_X12_up (mi 46 rfl) (fk S 1 rfl) (fn S 1 rfl) rfl (by omega) (by decide) (Or.inl (by decide)) ?_
      refine ex_iload ok_X12_up (mi 47 rfl) rfl ?_
      refine ex_zret ok_X12_up (mi 48 rfl) rfl (by decide) ?_
      exact ⟨by rw [if_pos hd]; rfl, (show gx_I (px_I g 1200 y v4) 1200 y = 0 by rw [gxI_I, if_pos ⟨rfl, rfl⟩]; exact rv4), by rw [if_neg hp]; exact MI_dn I2⟩
  · skip
    refine ex_if_ne (tgt := 57) ok_X12_up (mi 30 rfl) rfl (fun _ => ?_) (fun hn => absurd hn hd)
    refine ex_iconst ok_X12_up (mi 33 rfl) ?_
    refine ex_istore ok_X12_up (mi 34 rfl) ?_
    refine ex_aload_n ok_X12_up (mi 35 rfl) rfl ?_
    refine ex_getRx ok_X12_up (mi 36 rfl) rfl rfl (fk S 0 rfl) (fr S 0 rfl) (fk S 1 rfl) (by decide) ?_
    refine ex_iload_n ok_X12_up (mi 37 rfl) rfl ?_
    refine sf_Sp (As := [_]) ok_X12_up (mi 38 rfl) rfl (x_first2 hst) rfl rfl rfl (by decide) (Nat.le_of_ble_eq_true rfl) (by decide) (fun z6 q6 => ?_)
    subst q6
    refine ex_iload_n ok_X12_up (mi 39 rfl) rfl ?_
    refine ex_iadd ok_X12_up (mi 40 rfl) ?_
    refine ex_top (w := nI (12 + j)) (nI_add 12 j) ?_
    refine ex_iload_n ok_X12_up (mi 41 rfl) rfl ?_
    by_cases hp : p2 = 0
    · skip
      refine ex_if_ne (tgt := 78) ok_X12_up (mi 42 rfl) rfl (fun hn => absurd hp hn) (fun _ => ?_)
      refine ex_iconst ok_X12_up (mi 43 rfl) ?_
      refine ex_goto (tgt := 79) ok_X12_up (mi 44 rfl) rfl ?_
      refine sm_bast ok_X12_up (mi 46 rfl) (fk S 1 rfl) (fn S 1 rfl) rfl (by omega) (by decide) (Or.inr (by decide)) ?_
      refine ex_iload ok_X12_up (mi 47 rfl) rfl ?_
      refine ex_zret ok_X12_up (mi 48 rfl) rfl (by decide) ?_
      exact ⟨by rw [if_neg hd]; rfl, (show gx_I (px_I g 1200 y v4) 1200 y = 0 by rw [gxI_I, if_pos ⟨rfl, rfl⟩]; exact rv4), by rw [if_pos hp]; exact MI_dn I2⟩
    · skip
      refine ex_if_ne (tgt := 78) ok_X12_up (mi 42 rfl) rfl (fun _ => ?_) (fun hn => absurd hn hp)
      refine ex_iconst ok_X12_up (mi 45 rfl) ?_
      refine sm_bast ok_X12_up (mi 46 rfl) (fk S 1 rfl) (fn S 1 rfl) rfl (by omega) (by decide) (Or.inl (by decide)) ?_
      refine ex_iload ok_X12_up (mi 47 rfl) rfl ?_
      refine ex_zret ok_X12_up (mi 48 rfl) rfl (by decide) ?_
      exact ⟨by rw [if_neg hd]; rfl, (show gx_I (px_I g 1200 y v4) 1200 y = 0 by rw [gxI_I, if_pos ⟨rfl, rfl⟩]; exact rv4), by rw [if_neg hp]; exact MI_dn I2⟩
theorem e_mup_2_b {G : GE} (hst : (ge_l G).stackTraces = false) {y c : Nat} {D : UT} {R : Nat → Prop} {g : GT} {p1 p2 : Int32} (I : MI y D c R g) (c1 : ¬ vp_in p1 12) : ex_M G 2 0 0 my_X12_up [.ref y, .int (nI 2), .int p1, .int p2] g (fun r g' => r = .inl (some (.int (nI 0))) ∧ gx_I g' 1200 y = 1 ∧ MI y D c R g') := by
  refine ex_M_of ok_X12_up cw_X12_up rfl hst (Nat.le_of_ble_eq_true rfl) ?_
  refine ex_aload_n ok_X12_up (mi 0 rfl) rfl ?_
  refine ex_iload_n ok_X12_up (mi 1 rfl) rfl ?_
  refine ex_iconst ok_X12_up (mi 2 rfl) ?_
  refine ex_iconst ok_X12_up (mi 3 rfl) ?_
  refine sf_Sp (As := [_, _, _]) ok_X12_up (mi 4 rfl) rfl (s_in hst) rfl rfl rfl (by decide) (Nat.le_of_ble_eq_true rfl) (by decide) (fun z1 q1 => ?_)
  obtain ⟨b1, rfl, k1⟩ := q1
  obtain rfl : b1 = nI 1 := (k1.resolve_left (fun q => q.2.elim (fun q => absurd q (by decide)) (fun q => absurd q (by decide)))).1.trans (by decide)
  refine ex_if_eq (tgt := 28) ok_X12_up (mi 5 rfl) rfl (fun hn => absurd hn (by decide)) (fun _ => ?_)
  refine ex_iload_n ok_X12_up (mi 6 rfl) rfl ?_
  refine ex_iconst ok_X12_up (mi 7 rfl) ?_
  refine ex_iload_n ok_X12_up (mi 8 rfl) rfl ?_
  refine sf_Sp (As := [_]) ok_X12_up (mi 9 rfl) rfl (x_mnodes2 hst) rfl rfl rfl (by decide) (Nat.le_of_ble_eq_true rfl) (by decide) (fun z2 q2 => ?_)
  subst q2
  refine ex_iconst ok_X12_up (mi 10 rfl) ?_
  refine ex_isub ok_X12_up (mi 11 rfl) ?_
  refine ex_top (w := nI 11) (by decide) ?_
  refine sf_Sp (As := [_, _, _]) ok_X12_up (mi 12 rfl) rfl (s_in hst) rfl rfl rfl (by decide) (Nat.le_of_ble_eq_true rfl) (by decide) (fun z3 q3 => ?_)
  obtain ⟨b3, rfl, k3⟩ := q3
  obtain rfl : b3 = nI 0 := (k3.resolve_right (fun q => by
    obtain ⟨a, ha, rfl⟩ := in_n (n := 11) q.2.1 q.2.2 (by decide) rfl (by decide)
    exact c1 (vp_in_nI ha (by decide)))).1.trans (by decide)
  refine ex_if_eq (tgt := 28) ok_X12_up (mi 13 rfl) rfl (fun _ => ?_) (fun hn => absurd (by decide) hn)
  refine ex_iconst ok_X12_up (mi 16 rfl) ?_
  refine ex_iconst ok_X12_up (mi 17 rfl) ?_
  refine ex_iconst ok_X12_up (mi 18 rfl) ?_
  refine sm_V (As := [_, _, _]) ok_X12_up (mi 19 rfl) rfl (s_ref hst (MI_s I)) rfl (fk (MI_s I) 0 rfl) rfl rfl (by decide) (by decide) (Nat.le_of_ble_eq_true rfl) (by decide) RF_no (fun z4 g4 q4 => ?_)
  obtain ⟨b4, v4, e4, eg4, hr⟩ := q4
  cases e4
  subst eg4
  have I2 := MI_I (f := 1200) (v := v4) I (by decide)
  obtain ⟨rb, rv4, -⟩ := hr.resolve_left (fun q => absurd (by decide) q.2.1)
  obtain rfl : b4 = nI 1 := rb.trans (by decide)
  refine ex_if_eq (tgt := 39) ok_X12_up (mi 20 rfl) rfl (fun hn => absurd hn (by decide)) (fun _ => ?_)
  refine ex_iconst ok_X12_up (mi 21 rfl) ?_
  refine ex_zret ok_X12_up (mi 22 rfl) rfl (by decide) ?_
  exact ⟨rfl, by rw [gxI_I, if_pos ⟨rfl, rfl⟩]; exact rv4 (by decide), I2⟩
theorem e_mup_3 {G : GE} (hst : (ge_l G).stackTraces = false) {y c j : Nat} {D : UT} {R : Nat → Prop} {g : GT} {p2 : Int32} (I : MI y D c R g) (hj : j < 3) : ex_M G 2 0 0 my_X12_up [.ref y, .int (nI 3), .int (nI j), .int p2] g (fun r g' => r = .inl (some (.int (if D.1 (24 + j) = 0 then nI 1 else nI 0))) ∧ gx_I g' 1200 y = 0 ∧ MI y (updD D (24 + j) (if p2 = 0 then nI 1 else nI 0)) c R g') := by
  refine ex_M_of ok_X12_up cw_X12_up rfl hst (Nat.le_of_ble_eq_true rfl) ?_
  refine ex_aload_n ok_X12_up (mi 0 rfl) rfl ?_
  refine ex_iload_n ok_X12_up (mi 1 rfl) rfl ?_
  refine ex_iconst ok_X12_up (mi 2 rfl) ?_
  refine ex_iconst ok_X12_up (mi 3 rfl) ?_
  refine sf_Sp (As := [_, _, _]) ok_X12_up (mi 4 rfl) rfl (s_in hst) rfl rfl rfl (by decide) (Nat.le_of_ble_eq_true rfl) (by decide) (fun z1 q1 => ?_)
  obtain ⟨b1, rfl, k1⟩ := q1
  obtain rfl : b1 = nI 1 := (k1.resolve_left (fun q => q.2.elim (fun q => absurd q (by decide)) (fun q => absurd q (by decide)))).1.trans (by decide)
  refine ex_if_eq (tgt := 28) ok_X12_up (mi 5 rfl) rfl (fun hn => absurd hn (by decide)) (fun _ => ?_)
  refine ex_iload_n ok_X12_up (mi 6 rfl) rfl ?_
  refine ex_iconst ok_X12_up (mi 7 rfl) ?_
  refine ex_iload_n ok_X12_up (mi 8 rfl) rfl ?_
  refine sf_Sp (As := [_]) ok_X12_up (mi 9 rfl) rfl (x_mnodes3 hst) rfl rfl rfl (by decide) (Nat.le_of_ble_eq_true rfl) (by decide) (fun z2 q2 => ?_)
  subst q2
  refine ex_iconst ok_X12_up (mi 10 rfl) ?_
  refine ex_isub ok_X12_up (mi 11 rfl) ?_
  refine ex_top (w := nI 2) (by decide) ?_
  refine sf_Sp (As := [_, _, _]) ok_X12_up (mi 12 rfl) rfl (s_in hst) rfl rfl rfl (by decide) (Nat.le_of_ble_eq_true rfl) (by decide) (fun z3 q3 => ?_)
  obtain ⟨b3, rfl, k3⟩ := q3
  obtain rfl : b3 = nI 1 := (k3.resolve_left (fun q => q.2.elim (fun q => absurd q (Int32.not_lt.mpr (show Int32.ofInt 0 ≤ nI j from nI_le (a := 0) (b := j) (Nat.zero_le _) (by omega)))) (fun q => absurd q (Int32.not_lt.mpr (nI_le (a := j) (b := 2) (by omega) (by decide)))))).1.trans (by decide)
  refine ex_if_eq (tgt := 28) ok_X12_up (mi 13 rfl) rfl (fun hn => absurd hn (by decide)) (fun _ => ?_)
  refine ex_iconst ok_X12_up (mi 14 rfl) ?_
  refine ex_goto (tgt := 29) ok_X12_up (mi 15 rfl) rfl ?_
  refine ex_iconst ok_X12_up (mi 17 rfl) ?_
  refine ex_iconst ok_X12_up (mi 18 rfl) ?_
  refine sm_V (As := [_, _, _]) ok_X12_up (mi 19 rfl) rfl (s_ref hst (MI_s I)) rfl (fk (MI_s I) 0 rfl) rfl rfl (by decide) (by decide) (Nat.le_of_ble_eq_true rfl) (by decide) RF_no (fun z4 g4 q4 => ?_)
  obtain ⟨b4, v4, e4, eg4, hr⟩ := q4
  cases e4
  subst eg4
  have I2 := MI_I (f := 1200) (v := v4) I (by decide)
  obtain ⟨rb, -, -, -, rv4⟩ := hr.resolve_right (fun q => by rcases q.2.2 with k | k | k <;> exact absurd k (by decide))
  obtain rfl : b4 = nI 0 := rb.trans (by decide)
  refine ex_if_eq (tgt := 39) ok_X12_up (mi 20 rfl) rfl (fun _ => ?_) (fun hn => absurd (by decide) hn)
  have S := MI_s I2
  refine ex_aload_n ok_X12_up (mi 23 rfl) rfl ?_
  refine ex_getRx ok_X12_up (mi 24 rfl) rfl rfl (fk S 0 rfl) (fr S 0 rfl) (fk S 1 rfl) (by decide) ?_
  refine ex_iload_n ok_X12_up (mi 25 rfl) rfl ?_
  refine sf_Sp (As := [_]) ok_X12_up (mi 26 rfl) rfl (x_first3 hst) rfl rfl rfl (by decide) (Nat.le_of_ble_eq_true rfl) (by decide) (fun z5 q5 => ?_)
  subst q5
  refine ex_iload_n ok_X12_up (mi 27 rfl) rfl ?_
  refine ex_iadd ok_X12_up (mi 28 rfl) ?_
  refine ex_top (w := nI (24 + j)) (nI_add 24 j) ?_
  refine sm_bal ok_X12_up (mi 29 rfl) (fk S 1 rfl) (fn S 1 rfl) rfl (by omega) (by decide) ?_
  refine ex_top (w := D.1 (24 + j)) (MI_dv I2 (by omega)) ?_
  by_cases hd : D.1 (24 + j) = 0
  · skip
    refine ex_if_ne (tgt := 57) ok_X12_up (mi 30 rfl) rfl (fun hn => absurd hd hn) (fun _ => ?_)
    refine ex_iconst ok_X12_up (mi 31 rfl) ?_
    refine ex_goto (tgt := 58) ok_X12_up (mi 32 rfl) rfl ?_
    refine ex_istore ok_X12_up (mi 34 rfl) ?_
    refine ex_aload_n ok_X12_up (mi 35 rfl) rfl ?_
    refine ex_getRx ok_X12_up (mi 36 rfl) rfl rfl (fk S 0 rfl) (fr S 0 rfl) (fk S 1 rfl) (by decide) ?_
    refine ex_iload_n ok_X12_up (mi 37 rfl) rfl ?_
    refine sf_Sp (As := [_]) ok_X12_up (mi 38 rfl) rfl (x_first3 hst) rfl rfl rfl (by decide) (Nat.le_of_ble_eq_true rfl) (by decide) (fun z6 q6 => ?_)
    subst q6
    refine ex_iload_n ok_X12_up (mi 39 rfl) rfl ?_
    refine ex_iadd ok_X12_up (mi 40 rfl) ?_
    refine ex_top (w := nI (24 + j)) (nI_add 24 j) ?_
    refine ex_iload_n ok_X12_up (mi 41 rfl) rfl ?_
    by_cases hp : p2 = 0
    · skip
      refine ex_if_ne (tgt := 78) ok_X12_up (mi 42 rfl) rfl (fun hn => absurd hp hn) (fun _ => ?_)
      refine ex_iconst ok_X12_up (mi 43 rfl) ?_
      refine ex_goto (tgt := 79) ok_X12_up (mi 44 rfl) rfl ?_
      refine sm_bast ok_X12_up (mi 46 rfl) (fk S 1 rfl) (fn S 1 rfl) rfl (by omega) (by decide) (Or.inr (by decide)) ?_
      refine ex_iload ok_X12_up (mi 47 rfl) rfl ?_
      refine ex_zret ok_X12_up (mi 48 rfl) rfl (by decide) ?_
      exact ⟨by rw [if_pos hd]; rfl, (show gx_I (px_I g 1200 y v4) 1200 y = 0 by rw [gxI_I, if_pos ⟨rfl, rfl⟩]; exact rv4), by rw [if_pos hp]; exact MI_dn I2⟩
    · skip
      refine ex_if_ne (tgt := 78) ok_X12_up (mi 42 rfl) rfl (fun _ => ?_) (fun hn => absurd hn hp)
      refine ex_iconst ok_X12_up (mi 45 rfl) ?_
      refine sm_bast ok_X12_up (mi 46 rfl) (fk S 1 rfl) (fn S 1 rfl) rfl (by omega) (by decide) (Or.inl (by decide)) ?_
      refine ex_iload ok_X12_up (mi 47 rfl) rfl ?_
      refine ex_zret ok_X12_up (mi 48 rfl) rfl (by decide) ?_
      exact ⟨by rw [if_pos hd]; rfl, (show gx_I (px_I g 1200 y v4) 1200 y = 0 by rw [gxI_I, if_pos ⟨rfl, rfl⟩]; exact rv4), by rw [if_neg hp]; exact MI_dn I2⟩
  · skip
    refine ex_if_ne (tgt := 57) ok_X12_up (mi 30 rfl) rfl (fun _ => ?_) (fun hn => absurd hn hd)
    refine ex_iconst ok_X12_up (mi 33 rfl) ?_
    refine ex_istore ok_X12_up (mi 34 rfl) ?_
    refine ex_aload_n ok_X12_up (mi 35 rfl) rfl ?_
    refine ex_getRx ok_X12_up (mi 36 rfl) rfl rfl (fk S 0 rfl) (fr S 0 rfl) (fk S 1 rfl) (by decide) ?_
    refine ex_iload_n ok_X12_up (mi 37 rfl) rfl ?_
    refine sf_Sp (As := [_]) ok_X12_up (mi 38 rfl) rfl (x_first3 hst) rfl rfl rfl (by decide) (Nat.le_of_ble_eq_true rfl) (by decide) (fun z6 q6 => ?_)
    subst q6
    refine ex_iload_n ok_X12_up (mi 39 rfl) rfl ?_
    refine ex_iadd ok_X12_up (mi 40 rfl) ?_
    refine ex_top (w := nI (24 + j)) (nI_add 24 j) ?_
    refine ex_iload_n ok_X12_up (mi 41 rfl) rfl ?_
    by_cases hp : p2 = 0
    · skip
      refine ex_if_ne (tgt := 78) ok_X12_up (mi 42 rfl) rfl (fun hn => absurd hp hn) (fun _ => ?_)
      refine ex_iconst ok_X12_up (mi 43 rfl) ?_
      refine ex_goto (tgt := 79) ok_X12_up (mi 44 rfl) rfl ?_
      refine sm_bast ok_X12_up (mi 46 rfl) (fk S 1 rfl) (fn S 1 rfl) rfl (by omega) (by decide) (Or.inr (by decide)) ?_
      refine ex_iload ok_X12_up (mi 47 rfl) rfl ?_
      refine ex_zret ok_X12_up (mi 48 rfl) rfl (by decide) ?_
      exact ⟨by rw [if_neg hd]; rfl, (show gx_I (px_I g 1200 y v4) 1200 y = 0 by rw [gxI_I, if_pos ⟨rfl, rfl⟩]; exact rv4), by rw [if_pos hp]; exact MI_dn I2⟩
    · skip
      refine ex_if_ne (tgt := 78) ok_X12_up (mi 42 rfl) rfl (fun _ => ?_) (fun hn => absurd hn hp)
      refine ex_iconst ok_X12_up (mi 45 rfl) ?_
      refine sm_bast ok_X12_up (mi 46 rfl) (fk S 1 rfl) (fn S 1 rfl) rfl (by omega) (by decide) (Or.inl (by decide)) ?_
      refine ex_iload ok_X12_up (mi 47 rfl) rfl ?_
      refine ex_zret ok_X12_up (mi 48 rfl) rfl (by decide) ?_
      exact ⟨by rw [if_neg hd]; rfl, (show gx_I (px_I g 1200 y v4) 1200 y = 0 by rw [gxI_I, if_pos ⟨rfl, rfl⟩]; exact rv4), by rw [if_neg hp]; exact MI_dn I2⟩
theorem e_mup_3_b {G : GE} (hst : (ge_l G).stackTraces = false) {y c : Nat} {D : UT} {R : Nat → Prop} {g : GT} {p1 p2 : Int32} (I : MI y D c R g) (c1 : ¬ vp_in p1 3) : ex_M G 2 0 0 my_X12_up [.ref y, .int (nI 3), .int p1, .int p2] g (fun r g' => r = .inl (some (.int (nI 0))) ∧ gx_I g' 1200 y = 1 ∧ MI y D c R g') := by
  refine ex_M_of ok_X12_up cw_X12_up rfl hst (Nat.le_of_ble_eq_true rfl) ?_
  refine ex_aload_n ok_X12_up (mi 0 rfl) rfl ?_
  refine ex_iload_n ok_X12_up (mi 1 rfl) rfl ?_
  refine ex_iconst ok_X12_up (mi 2 rfl) ?_
  refine ex_iconst ok_X12_up (mi 3 rfl) ?_
  refine sf_Sp (As := [_, _, _]) ok_X12_up (mi 4 rfl) rfl (s_in hst) rfl rfl rfl (by decide) (Nat.le_of_ble_eq_true rfl) (by decide) (fun z1 q1 => ?_)
  obtain ⟨b1, rfl, k1⟩ := q1
  obtain rfl : b1 = nI 1 := (k1.resolve_left (fun q => q.2.elim (fun q => absurd q (by decide)) (fun q => absurd q (by decide)))).1.trans (by decide)
  refine ex_if_eq (tgt := 28) ok_X12_up (mi 5 rfl) rfl (fun hn => absurd hn (by decide)) (fun _ => ?_)
  refine ex_iload_n ok_X12_up (mi 6 rfl) rfl ?_
  refine ex_iconst ok_X12_up (mi 7 rfl) ?_
  refine ex_iload_n ok_X12_up (mi 8 rfl) rfl ?_
  refine sf_Sp (As := [_]) ok_X12_up (mi 9 rfl) rfl (x_mnodes3 hst) rfl rfl rfl (by decide) (Nat.le_of_ble_eq_true rfl) (by decide) (fun z2 q2 => ?_)
  subst q2
  refine ex_iconst ok_X12_up (mi 10 rfl) ?_
  refine ex_isub ok_X12_up (mi 11 rfl) ?_
  refine ex_top (w := nI 2) (by decide) ?_
  refine sf_Sp (As := [_, _, _]) ok_X12_up (mi 12 rfl) rfl (s_in hst) rfl rfl rfl (by decide) (Nat.le_of_ble_eq_true rfl) (by decide) (fun z3 q3 => ?_)
  obtain ⟨b3, rfl, k3⟩ := q3
  obtain rfl : b3 = nI 0 := (k3.resolve_right (fun q => by
    obtain ⟨a, ha, rfl⟩ := in_n (n := 2) q.2.1 q.2.2 (by decide) rfl (by decide)
    exact c1 (vp_in_nI ha (by decide)))).1.trans (by decide)
  refine ex_if_eq (tgt := 28) ok_X12_up (mi 13 rfl) rfl (fun _ => ?_) (fun hn => absurd (by decide) hn)
  refine ex_iconst ok_X12_up (mi 16 rfl) ?_
  refine ex_iconst ok_X12_up (mi 17 rfl) ?_
  refine ex_iconst ok_X12_up (mi 18 rfl) ?_
  refine sm_V (As := [_, _, _]) ok_X12_up (mi 19 rfl) rfl (s_ref hst (MI_s I)) rfl (fk (MI_s I) 0 rfl) rfl rfl (by decide) (by decide) (Nat.le_of_ble_eq_true rfl) (by decide) RF_no (fun z4 g4 q4 => ?_)
  obtain ⟨b4, v4, e4, eg4, hr⟩ := q4
  cases e4
  subst eg4
  have I2 := MI_I (f := 1200) (v := v4) I (by decide)
  obtain ⟨rb, rv4, -⟩ := hr.resolve_left (fun q => absurd (by decide) q.2.1)
  obtain rfl : b4 = nI 1 := rb.trans (by decide)
  refine ex_if_eq (tgt := 39) ok_X12_up (mi 20 rfl) rfl (fun hn => absurd hn (by decide)) (fun _ => ?_)
  refine ex_iconst ok_X12_up (mi 21 rfl) ?_
  refine ex_zret ok_X12_up (mi 22 rfl) rfl (by decide) ?_
  exact ⟨rfl, by rw [gxI_I, if_pos ⟨rfl, rfl⟩]; exact rv4 (by decide), I2⟩
theorem e_mup_b {G : GE} (hst : (ge_l G).stackTraces = false) {y c : Nat} {D : UT} {R : Nat → Prop} {g : GT} {p0 p1 p2 : Int32} (I : MI y D c R g) (c0 : ¬ vp_in p0 4) : ex_M G 2 0 0 my_X12_up [.ref y, .int p0, .int p1, .int p2] g (fun r g' => r = .inl (some (.int (nI 0))) ∧ gx_I g' 1200 y = 1 ∧ MI y D c R g') := by
  refine ex_M_of ok_X12_up cw_X12_up rfl hst (Nat.le_of_ble_eq_true rfl) ?_
  refine ex_aload_n ok_X12_up (mi 0 rfl) rfl ?_
  refine ex_iload_n ok_X12_up (mi 1 rfl) rfl ?_
  refine ex_iconst ok_X12_up (mi 2 rfl) ?_
  refine ex_iconst ok_X12_up (mi 3 rfl) ?_
  refine sf_Sp (As := [_, _, _]) ok_X12_up (mi 4 rfl) rfl (s_in hst) rfl rfl rfl (by decide) (Nat.le_of_ble_eq_true rfl) (by decide) (fun z1 q1 => ?_)
  obtain ⟨b1, rfl, k1⟩ := q1
  obtain rfl : b1 = nI 0 := (k1.resolve_right (fun q => by
    obtain ⟨a, ha, rfl⟩ := in_n (n := 3) q.2.1 q.2.2 (by decide) rfl (by decide)
    exact c0 (vp_in_nI ha (by decide)))).1.trans (by decide)
  refine ex_if_eq (tgt := 28) ok_X12_up (mi 5 rfl) rfl (fun _ => ?_) (fun hn => absurd (by decide) hn)
  refine ex_iconst ok_X12_up (mi 16 rfl) ?_
  refine ex_iconst ok_X12_up (mi 17 rfl) ?_
  refine ex_iconst ok_X12_up (mi 18 rfl) ?_
  refine sm_V (As := [_, _, _]) ok_X12_up (mi 19 rfl) rfl (s_ref hst (MI_s I)) rfl (fk (MI_s I) 0 rfl) rfl rfl (by decide) (by decide) (Nat.le_of_ble_eq_true rfl) (by decide) RF_no (fun z4 g4 q4 => ?_)
  obtain ⟨b4, v4, e4, eg4, hr⟩ := q4
  cases e4
  subst eg4
  have I2 := MI_I (f := 1200) (v := v4) I (by decide)
  obtain ⟨rb, rv4, -⟩ := hr.resolve_left (fun q => absurd (by decide) q.2.1)
  obtain rfl : b4 = nI 1 := rb.trans (by decide)
  refine ex_if_eq (tgt := 39) ok_X12_up (mi 20 rfl) rfl (fun hn => absurd hn (by decide)) (fun _ => ?_)
  refine ex_iconst ok_X12_up (mi 21 rfl) ?_
  refine ex_zret ok_X12_up (mi 22 rfl) rfl (by decide) ?_
  exact ⟨rfl, by rw [gxI_I, if_pos ⟨rfl, rfl⟩]; exact rv4 (by decide), I2⟩
