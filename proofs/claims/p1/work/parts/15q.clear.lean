/-! ===== the model's clear ===== -/
theorem apst {x a i lo : Nat} {v : Int32} {g : GT} (h : lo ≤ i) : ap1 x (1, a, i, 0, v) (ap1 x (2, a, lo, i, v) g) = ap1 x (2, a, lo, i + 1, v) g := px_F_s _ _ _ _ _ h
theorem ap0 {x a lo : Nat} {v : Int32} {g : GT} : ap1 x (2, a, lo, lo, v) g = g := px_F_0 _ _ _ _
theorem apsw {x a i b lo hi : Nat} {v w : Int32} {g : GT} (h : a ≠ b) : ap1 x (1, a, i, 0, v) (ap1 x (2, b, lo, hi, w) g) = ap1 x (2, b, lo, hi, w) (ap1 x (1, a, i, 0, v) g) := by
  show px_A (px_F g (x + b) lo hi w) (x + a) i v = px_F (px_A g (x + a) i v) (x + b) lo hi w
  unfold px_A px_F gx_u
  dsimp only
  congr 5
  funext y j
  by_cases e : y = x + a
  · have e2 : ¬ y = x + b := by omega
    by_cases e3 : j = i
    · rw [if_pos ⟨e, e3⟩, if_neg (fun k => e2 k.1), if_pos ⟨e, e3⟩]
    · rw [if_neg (fun k => e3 k.2), if_neg (fun k => e2 k.1), if_neg (fun k => e2 k.1), if_neg (fun k => e3 k.2)]
  · rw [if_neg (fun k => e k.1)]
    by_cases e4 : y = x + b ∧ lo ≤ j ∧ j < hi
    · rw [if_pos e4, if_pos e4]
    · rw [if_neg e4, if_neg e4, if_neg (fun k => e k.1)]
theorem ap_c {x : Nat} {w : WT} {ws : List WT} {g : GT} : ap x (w :: ws) g = ap1 x w (ap x ws g) := rfl
theorem eq_c7 {x r : Nat} {ws : List WT} {g : GT} : ap x ((1, 1, r, 0, (nI 0)) :: (2, 1, 0, r, (nI 0)) :: ws) g = ap x ((2, 1, 0, r + 1, (nI 0)) :: ws) g := by
  simp only [ap_c]
  rw [apst (a := 1) (lo := 0) (by omega)]
theorem lp_c7 {G : GE} {x : Nat} {h : GT} {ws : List WT} {Q : RT → GT → Prop} (hs : sh T12 h x) (hq : ex_W G 3 0 0 M_X12_clear 26 [(0, .ref x), (1, .int (nI 27))] [] (ap x ((2, 1, 0, 27, (nI 0)) :: ws) h) Q) : ex_W G 3 0 0 M_X12_clear 7 [(0, .ref x), (1, .int (nI 0))] [] (ap x ws h) Q := by
  have lp : ∀ n r : Nat, r + n = 27 → ex_W G 3 0 0 M_X12_clear 7 [(0, .ref x), (1, .int (nI r))] [] (ap x ((2, 1, 0, r, (nI 0)) :: ws) h) Q := by
    intro n
    induction n with
    | zero =>
      intro r hr
      obtain rfl : r = 27 := by omega
      refine ex_iload_n ok_X12_clear (mi 5 rfl) rfl ?_
      refine ex_bipush ok_X12_clear (mi 6 rfl) ?_
      refine ex_icmp_ge (tgt := 26) ok_X12_clear (mi 7 rfl) rfl (fun _ => ?_) (fun hn => absurd (by decide) hn)
      exact hq
    | succ n ih =>
      intro r hrn
      have hr : r < 27 := by omega
      refine ex_iload_n ok_X12_clear (mi 5 rfl) rfl ?_
      refine ex_bipush ok_X12_clear (mi 6 rfl) ?_
      refine ex_icmp_ge (tgt := 26) ok_X12_clear (mi 7 rfl) rfl (fun h10 => False.elim (absurd h10 (nI_ge hr (by decide)))) (fun h10 => ?_)
      refine ex_aload_n ok_X12_clear (mi 8 rfl) rfl ?_
      refine ex_getRx ok_X12_clear (mi 9 rfl) rfl rfl (kq apq (fk hs 0 rfl)) (rq apq (fr hs 0 rfl)) (kq apq (fk hs 1 rfl)) (by decide) ?_
      refine ex_iload_n ok_X12_clear (mi 10 rfl) rfl ?_
      refine ex_iconst ok_X12_clear (mi 11 rfl) ?_
      refine ex_basta (a := 1) (j := r) (v := (nI 0)) ok_X12_clear (mi 12 rfl) (fk hs 1 rfl) (fn hs 1 rfl) (vp_in_nI (by omega) (by decide)) (nI_clamp (by omega)) (by decide) (by decide) ?_
      refine ex_iinc ok_X12_clear (mi 13 rfl) rfl ?_
      refine ex_goto (tgt := 7) ok_X12_clear (mi 14 rfl) rfl ?_
      rw [eq_c7]
      exact ex_ls (ls' := [(0, .ref x), (1, .int (nI (r + 1)))]) ⟨rfl, by rw [nI_succ]; rfl, trivial⟩ (ih (r + 1) (by omega))
  have k := lp 27 0 rfl
  simp only [ap_c, Nat.add_zero, ap0] at k
  exact k
theorem eq_c206 {x r : Nat} {ws : List WT} {g : GT} : ap x ((1, 38, r, 0, (nI 0)) :: (2, 38, 0, r, (nI 0)) :: ws) g = ap x ((2, 38, 0, r + 1, (nI 0)) :: ws) g := by
  simp only [ap_c]
  rw [apst (a := 38) (lo := 0) (by omega)]
theorem lp_c206 {G : GE} {x : Nat} {h : GT} {ws : List WT} {Q : RT → GT → Prop} (hs : sh T12 h x) (hq : ex_W G 3 0 0 M_X12_clear 226 [(0, .ref x), (1, .int (nI 2700))] [] (ap x ((2, 38, 0, 2700, (nI 0)) :: ws) h) Q) : ex_W G 3 0 0 M_X12_clear 206 [(0, .ref x), (1, .int (nI 0))] [] (ap x ws h) Q := by
  have lp : ∀ n r : Nat, r + n = 2700 → ex_W G 3 0 0 M_X12_clear 206 [(0, .ref x), (1, .int (nI r))] [] (ap x ((2, 38, 0, r, (nI 0)) :: ws) h) Q := by
    intro n
    induction n with
    | zero =>
      intro r hr
      obtain rfl : r = 2700 := by omega
      refine ex_iload_n ok_X12_clear (mi 132 rfl) rfl ?_
      refine ex_sipush ok_X12_clear (mi 133 rfl) ?_
      refine ex_icmp_ge (tgt := 226) ok_X12_clear (mi 134 rfl) rfl (fun _ => ?_) (fun hn => absurd (by decide) hn)
      exact hq
    | succ n ih =>
      intro r hrn
      have hr : r < 2700 := by omega
      refine ex_iload_n ok_X12_clear (mi 132 rfl) rfl ?_
      refine ex_sipush ok_X12_clear (mi 133 rfl) ?_
      refine ex_icmp_ge (tgt := 226) ok_X12_clear (mi 134 rfl) rfl (fun h210 => False.elim (absurd h210 (nI_ge hr (by decide)))) (fun h210 => ?_)
      refine ex_aload_n ok_X12_clear (mi 135 rfl) rfl ?_
      refine ex_getRx ok_X12_clear (mi 136 rfl) rfl rfl (kq apq (fk hs 0 rfl)) (rq apq (fr hs 37 rfl)) (kq apq (fk hs 38 rfl)) (by decide) ?_
      refine ex_iload_n ok_X12_clear (mi 137 rfl) rfl ?_
      refine ex_iconst ok_X12_clear (mi 138 rfl) ?_
      refine ex_iasta (a := 38) (j := r) (v := (nI 0)) ok_X12_clear (mi 139 rfl) (fk hs 38 rfl) (fn hs 38 rfl) (vp_in_nI (by omega) (by decide)) (nI_clamp (by omega)) (by decide) ?_
      refine ex_iinc ok_X12_clear (mi 140 rfl) rfl ?_
      refine ex_goto (tgt := 206) ok_X12_clear (mi 141 rfl) rfl ?_
      rw [eq_c206]
      exact ex_ls (ls' := [(0, .ref x), (1, .int (nI (r + 1)))]) ⟨rfl, by rw [nI_succ]; rfl, trivial⟩ (ih (r + 1) (by omega))
  have k := lp 2700 0 rfl
  simp only [ap_c, Nat.add_zero, ap0] at k
  exact k
theorem eq_c256 {x r : Nat} {ws : List WT} {g : GT} : ap x ((1, 45, r, 0, ((-1))) :: (2, 45, 0, r, ((-1))) :: ws) g = ap x ((2, 45, 0, r + 1, ((-1))) :: ws) g := by
  simp only [ap_c]
  rw [apst (a := 45) (lo := 0) (by omega)]
theorem lp_c256 {G : GE} {x : Nat} {h : GT} {ws : List WT} {Q : RT → GT → Prop} (hs : sh T12 h x) (hq : ex_W G 3 0 0 M_X12_clear 276 [(0, .ref x), (1, .int (nI 192))] [] (ap x ((2, 45, 0, 192, ((-1))) :: ws) h) Q) : ex_W G 3 0 0 M_X12_clear 256 [(0, .ref x), (1, .int (nI 0))] [] (ap x ws h) Q := by
  have lp : ∀ n r : Nat, r + n = 192 → ex_W G 3 0 0 M_X12_clear 256 [(0, .ref x), (1, .int (nI r))] [] (ap x ((2, 45, 0, r, ((-1))) :: ws) h) Q := by
    intro n
    induction n with
    | zero =>
      intro r hr
      obtain rfl : r = 192 := by omega
      refine ex_iload_n ok_X12_clear (mi 161 rfl) rfl ?_
      refine ex_sipush ok_X12_clear (mi 162 rfl) ?_
      refine ex_icmp_ge (tgt := 276) ok_X12_clear (mi 163 rfl) rfl (fun _ => ?_) (fun hn => absurd (by decide) hn)
      exact hq
    | succ n ih =>
      intro r hrn
      have hr : r < 192 := by omega
      refine ex_iload_n ok_X12_clear (mi 161 rfl) rfl ?_
      refine ex_sipush ok_X12_clear (mi 162 rfl) ?_
      refine ex_icmp_ge (tgt := 276) ok_X12_clear (mi 163 rfl) rfl (fun h260 => False.elim (absurd h260 (nI_ge hr (by decide)))) (fun h260 => ?_)
      refine ex_aload_n ok_X12_clear (mi 164 rfl) rfl ?_
      refine ex_getRx ok_X12_clear (mi 165 rfl) rfl rfl (kq apq (fk hs 0 rfl)) (rq apq (fr hs 44 rfl)) (kq apq (fk hs 45 rfl)) (by decide) ?_
      refine ex_iload_n ok_X12_clear (mi 166 rfl) rfl ?_
      refine ex_iconst ok_X12_clear (mi 167 rfl) ?_
      refine ex_iasta (a := 45) (j := r) (v := (-1)) ok_X12_clear (mi 168 rfl) (fk hs 45 rfl) (fn hs 45 rfl) (vp_in_nI (by omega) (by decide)) (nI_clamp (by omega)) (by decide) ?_
      refine ex_iinc ok_X12_clear (mi 169 rfl) rfl ?_
      refine ex_goto (tgt := 256) ok_X12_clear (mi 170 rfl) rfl ?_
      rw [eq_c256]
      exact ex_ls (ls' := [(0, .ref x), (1, .int (nI (r + 1)))]) ⟨rfl, by rw [nI_succ]; rfl, trivial⟩ (ih (r + 1) (by omega))
  have k := lp 192 0 rfl
  simp only [ap_c, Nat.add_zero, ap0] at k
  exact k
theorem eq_c278 {x r : Nat} {ws : List WT} {g : GT} : ap x ((1, 47, r, 0, ((-1))) :: (2, 47, 0, r, ((-1))) :: ws) g = ap x ((2, 47, 0, r + 1, ((-1))) :: ws) g := by
  simp only [ap_c]
  rw [apst (a := 47) (lo := 0) (by omega)]
theorem lp_c278 {G : GE} {x : Nat} {h : GT} {ws : List WT} {Q : RT → GT → Prop} (hs : sh T12 h x) (hq : ex_W G 3 0 0 M_X12_clear 297 [(0, .ref x), (1, .int (nI 48))] [] (ap x ((2, 47, 0, 48, ((-1))) :: ws) h) Q) : ex_W G 3 0 0 M_X12_clear 278 [(0, .ref x), (1, .int (nI 0))] [] (ap x ws h) Q := by
  have lp : ∀ n r : Nat, r + n = 48 → ex_W G 3 0 0 M_X12_clear 278 [(0, .ref x), (1, .int (nI r))] [] (ap x ((2, 47, 0, r, ((-1))) :: ws) h) Q := by
    intro n
    induction n with
    | zero =>
      intro r hr
      obtain rfl : r = 48 := by omega
      refine ex_iload_n ok_X12_clear (mi 173 rfl) rfl ?_
      refine ex_bipush ok_X12_clear (mi 174 rfl) ?_
      refine ex_icmp_ge (tgt := 297) ok_X12_clear (mi 175 rfl) rfl (fun _ => ?_) (fun hn => absurd (by decide) hn)
      exact hq
    | succ n ih =>
      intro r hrn
      have hr : r < 48 := by omega
      refine ex_iload_n ok_X12_clear (mi 173 rfl) rfl ?_
      refine ex_bipush ok_X12_clear (mi 174 rfl) ?_
      refine ex_icmp_ge (tgt := 297) ok_X12_clear (mi 175 rfl) rfl (fun h281 => False.elim (absurd h281 (nI_ge hr (by decide)))) (fun h281 => ?_)
      refine ex_aload_n ok_X12_clear (mi 176 rfl) rfl ?_
      refine ex_getRx ok_X12_clear (mi 177 rfl) rfl rfl (kq apq (fk hs 0 rfl)) (rq apq (fr hs 46 rfl)) (kq apq (fk hs 47 rfl)) (by decide) ?_
      refine ex_iload_n ok_X12_clear (mi 178 rfl) rfl ?_
      refine ex_iconst ok_X12_clear (mi 179 rfl) ?_
      refine ex_iasta (a := 47) (j := r) (v := (-1)) ok_X12_clear (mi 180 rfl) (fk hs 47 rfl) (fn hs 47 rfl) (vp_in_nI (by omega) (by decide)) (nI_clamp (by omega)) (by decide) ?_
      refine ex_iinc ok_X12_clear (mi 181 rfl) rfl ?_
      refine ex_goto (tgt := 278) ok_X12_clear (mi 182 rfl) rfl ?_
      rw [eq_c278]
      exact ex_ls (ls' := [(0, .ref x), (1, .int (nI (r + 1)))]) ⟨rfl, by rw [nI_succ]; rfl, trivial⟩ (ih (r + 1) (by omega))
  have k := lp 48 0 rfl
  simp only [ap_c, Nat.add_zero, ap0] at k
  exact k
theorem eq_c304 {x r : Nat} {ws : List WT} {g : GT} : ap x ((1, 49, r, 0, (nI 0)) :: (2, 49, 0, r, (nI 0)) :: ws) g = ap x ((2, 49, 0, r + 1, (nI 0)) :: ws) g := by
  simp only [ap_c]
  rw [apst (a := 49) (lo := 0) (by omega)]
theorem lp_c304 {G : GE} {x : Nat} {h : GT} {ws : List WT} {Q : RT → GT → Prop} (hs : sh T12 h x) (hq : ex_W G 3 0 0 M_X12_clear 324 [(0, .ref x), (1, .int (nI 402))] [] (ap x ((2, 49, 0, 402, (nI 0)) :: ws) h) Q) : ex_W G 3 0 0 M_X12_clear 304 [(0, .ref x), (1, .int (nI 0))] [] (ap x ws h) Q := by
  have lp : ∀ n r : Nat, r + n = 402 → ex_W G 3 0 0 M_X12_clear 304 [(0, .ref x), (1, .int (nI r))] [] (ap x ((2, 49, 0, r, (nI 0)) :: ws) h) Q := by
    intro n
    induction n with
    | zero =>
      intro r hr
      obtain rfl : r = 402 := by omega
      refine ex_iload_n ok_X12_clear (mi 188 rfl) rfl ?_
      refine ex_sipush ok_X12_clear (mi 189 rfl) ?_
      refine ex_icmp_ge (tgt := 324) ok_X12_clear (mi 190 rfl) rfl (fun _ => ?_) (fun hn => absurd (by decide) hn)
      exact hq
    | succ n ih =>
      intro r hrn
      have hr : r < 402 := by omega
      refine ex_iload_n ok_X12_clear (mi 188 rfl) rfl ?_
      refine ex_sipush ok_X12_clear (mi 189 rfl) ?_
      refine ex_icmp_ge (tgt := 324) ok_X12_clear (mi 190 rfl) rfl (fun h308 => False.elim (absurd h308 (nI_ge hr (by decide)))) (fun h308 => ?_)
      refine ex_aload_n ok_X12_clear (mi 191 rfl) rfl ?_
      refine ex_getRx ok_X12_clear (mi 192 rfl) rfl rfl (kq apq (fk hs 0 rfl)) (rq apq (fr hs 48 rfl)) (kq apq (fk hs 49 rfl)) (by decide) ?_
      refine ex_iload_n ok_X12_clear (mi 193 rfl) rfl ?_
      refine ex_iconst ok_X12_clear (mi 194 rfl) ?_
      refine ex_basta (a := 49) (j := r) (v := (nI 0)) ok_X12_clear (mi 195 rfl) (fk hs 49 rfl) (fn hs 49 rfl) (vp_in_nI (by omega) (by decide)) (nI_clamp (by omega)) (by decide) (by decide) ?_
      refine ex_iinc ok_X12_clear (mi 196 rfl) rfl ?_
      refine ex_goto (tgt := 304) ok_X12_clear (mi 197 rfl) rfl ?_
      rw [eq_c304]
      exact ex_ls (ls' := [(0, .ref x), (1, .int (nI (r + 1)))]) ⟨rfl, by rw [nI_succ]; rfl, trivial⟩ (ih (r + 1) (by omega))
  have k := lp 402 0 rfl
  simp only [ap_c, Nat.add_zero, ap0] at k
  exact k
theorem eq_c326 {x r : Nat} {ws : List WT} {g : GT} : ap x ((1, 57, r, 0, (nI 0)) :: (2, 57, 0, r, (nI 0)) :: ws) g = ap x ((2, 57, 0, r + 1, (nI 0)) :: ws) g := by
  simp only [ap_c]
  rw [apst (a := 57) (lo := 0) (by omega)]
theorem lp_c326 {G : GE} {x : Nat} {h : GT} {ws : List WT} {Q : RT → GT → Prop} (hs : sh T12 h x) (hq : ex_W G 3 0 0 M_X12_clear 346 [(0, .ref x), (1, .int (nI 300))] [] (ap x ((2, 57, 0, 300, (nI 0)) :: ws) h) Q) : ex_W G 3 0 0 M_X12_clear 326 [(0, .ref x), (1, .int (nI 0))] [] (ap x ws h) Q := by
  have lp : ∀ n r : Nat, r + n = 300 → ex_W G 3 0 0 M_X12_clear 326 [(0, .ref x), (1, .int (nI r))] [] (ap x ((2, 57, 0, r, (nI 0)) :: ws) h) Q := by
    intro n
    induction n with
    | zero =>
      intro r hr
      obtain rfl : r = 300 := by omega
      refine ex_iload_n ok_X12_clear (mi 200 rfl) rfl ?_
      refine ex_sipush ok_X12_clear (mi 201 rfl) ?_
      refine ex_icmp_ge (tgt := 346) ok_X12_clear (mi 202 rfl) rfl (fun _ => ?_) (fun hn => absurd (by decide) hn)
      exact hq
    | succ n ih =>
      intro r hrn
      have hr : r < 300 := by omega
      refine ex_iload_n ok_X12_clear (mi 200 rfl) rfl ?_
      refine ex_sipush ok_X12_clear (mi 201 rfl) ?_
      refine ex_icmp_ge (tgt := 346) ok_X12_clear (mi 202 rfl) rfl (fun h330 => False.elim (absurd h330 (nI_ge hr (by decide)))) (fun h330 => ?_)
      refine ex_aload_n ok_X12_clear (mi 203 rfl) rfl ?_
      refine ex_getRx ok_X12_clear (mi 204 rfl) rfl rfl (kq apq (fk hs 0 rfl)) (rq apq (fr hs 56 rfl)) (kq apq (fk hs 57 rfl)) (by decide) ?_
      refine ex_iload_n ok_X12_clear (mi 205 rfl) rfl ?_
      refine ex_iconst ok_X12_clear (mi 206 rfl) ?_
      refine ex_iasta (a := 57) (j := r) (v := (nI 0)) ok_X12_clear (mi 207 rfl) (fk hs 57 rfl) (fn hs 57 rfl) (vp_in_nI (by omega) (by decide)) (nI_clamp (by omega)) (by decide) ?_
      refine ex_iinc ok_X12_clear (mi 208 rfl) rfl ?_
      refine ex_goto (tgt := 326) ok_X12_clear (mi 209 rfl) rfl ?_
      rw [eq_c326]
      exact ex_ls (ls' := [(0, .ref x), (1, .int (nI (r + 1)))]) ⟨rfl, by rw [nI_succ]; rfl, trivial⟩ (ih (r + 1) (by omega))
  have k := lp 300 0 rfl
  simp only [ap_c, Nat.add_zero, ap0] at k
  exact k
theorem eq_c348 {x r : Nat} {ws : List WT} {g : GT} : ap x ((1, 58, r, 0, (nI 0)) :: (2, 58, 0, r, (nI 0)) :: ws) g = ap x ((2, 58, 0, r + 1, (nI 0)) :: ws) g := by
  simp only [ap_c]
  rw [apst (a := 58) (lo := 0) (by omega)]
theorem lp_c348 {G : GE} {x : Nat} {h : GT} {ws : List WT} {Q : RT → GT → Prop} (hs : sh T12 h x) (hq : ex_W G 3 0 0 M_X12_clear 368 [(0, .ref x), (1, .int (nI 4800))] [] (ap x ((2, 58, 0, 4800, (nI 0)) :: ws) h) Q) : ex_W G 3 0 0 M_X12_clear 348 [(0, .ref x), (1, .int (nI 0))] [] (ap x ws h) Q := by
  have lp : ∀ n r : Nat, r + n = 4800 → ex_W G 3 0 0 M_X12_clear 348 [(0, .ref x), (1, .int (nI r))] [] (ap x ((2, 58, 0, r, (nI 0)) :: ws) h) Q := by
    intro n
    induction n with
    | zero =>
      intro r hr
      obtain rfl : r = 4800 := by omega
      refine ex_iload_n ok_X12_clear (mi 212 rfl) rfl ?_
      refine ex_sipush ok_X12_clear (mi 213 rfl) ?_
      refine ex_icmp_ge (tgt := 368) ok_X12_clear (mi 214 rfl) rfl (fun _ => ?_) (fun hn => absurd (by decide) hn)
      exact hq
    | succ n ih =>
      intro r hrn
      have hr : r < 4800 := by omega
      refine ex_iload_n ok_X12_clear (mi 212 rfl) rfl ?_
      refine ex_sipush ok_X12_clear (mi 213 rfl) ?_
      refine ex_icmp_ge (tgt := 368) ok_X12_clear (mi 214 rfl) rfl (fun h352 => False.elim (absurd h352 (nI_ge hr (by decide)))) (fun h352 => ?_)
      refine ex_aload_n ok_X12_clear (mi 215 rfl) rfl ?_
      refine ex_getRx ok_X12_clear (mi 216 rfl) rfl rfl (kq apq (fk hs 0 rfl)) (rq apq (fr hs 57 rfl)) (kq apq (fk hs 58 rfl)) (by decide) ?_
      refine ex_iload_n ok_X12_clear (mi 217 rfl) rfl ?_
      refine ex_iconst ok_X12_clear (mi 218 rfl) ?_
      refine ex_iasta (a := 58) (j := r) (v := (nI 0)) ok_X12_clear (mi 219 rfl) (fk hs 58 rfl) (fn hs 58 rfl) (vp_in_nI (by omega) (by decide)) (nI_clamp (by omega)) (by decide) ?_
      refine ex_iinc ok_X12_clear (mi 220 rfl) rfl ?_
      refine ex_goto (tgt := 348) ok_X12_clear (mi 221 rfl) rfl ?_
      rw [eq_c348]
      exact ex_ls (ls' := [(0, .ref x), (1, .int (nI (r + 1)))]) ⟨rfl, by rw [nI_succ]; rfl, trivial⟩ (ih (r + 1) (by omega))
  have k := lp 4800 0 rfl
  simp only [ap_c, Nat.add_zero, ap0] at k
  exact k
theorem eq_c370 {x r : Nat} {ws : List WT} {g : GT} : ap x ((1, 59, r, 0, ((-1))) :: (2, 59, 0, r, ((-1))) :: ws) g = ap x ((2, 59, 0, r + 1, ((-1))) :: ws) g := by
  simp only [ap_c]
  rw [apst (a := 59) (lo := 0) (by omega)]
theorem lp_c370 {G : GE} {x : Nat} {h : GT} {ws : List WT} {Q : RT → GT → Prop} (hs : sh T12 h x) (hq : ex_W G 3 0 0 M_X12_clear 389 [(0, .ref x), (1, .int (nI 16))] [] (ap x ((2, 59, 0, 16, ((-1))) :: ws) h) Q) : ex_W G 3 0 0 M_X12_clear 370 [(0, .ref x), (1, .int (nI 0))] [] (ap x ws h) Q := by
  have lp : ∀ n r : Nat, r + n = 16 → ex_W G 3 0 0 M_X12_clear 370 [(0, .ref x), (1, .int (nI r))] [] (ap x ((2, 59, 0, r, ((-1))) :: ws) h) Q := by
    intro n
    induction n with
    | zero =>
      intro r hr
      obtain rfl : r = 16 := by omega
      refine ex_iload_n ok_X12_clear (mi 224 rfl) rfl ?_
      refine ex_bipush ok_X12_clear (mi 225 rfl) ?_
      refine ex_icmp_ge (tgt := 389) ok_X12_clear (mi 226 rfl) rfl (fun _ => ?_) (fun hn => absurd (by decide) hn)
      exact hq
    | succ n ih =>
      intro r hrn
      have hr : r < 16 := by omega
      refine ex_iload_n ok_X12_clear (mi 224 rfl) rfl ?_
      refine ex_bipush ok_X12_clear (mi 225 rfl) ?_
      refine ex_icmp_ge (tgt := 389) ok_X12_clear (mi 226 rfl) rfl (fun h373 => False.elim (absurd h373 (nI_ge hr (by decide)))) (fun h373 => ?_)
      refine ex_aload_n ok_X12_clear (mi 227 rfl) rfl ?_
      refine ex_getRx ok_X12_clear (mi 228 rfl) rfl rfl (kq apq (fk hs 0 rfl)) (rq apq (fr hs 58 rfl)) (kq apq (fk hs 59 rfl)) (by decide) ?_
      refine ex_iload_n ok_X12_clear (mi 229 rfl) rfl ?_
      refine ex_iconst ok_X12_clear (mi 230 rfl) ?_
      refine ex_iasta (a := 59) (j := r) (v := (-1)) ok_X12_clear (mi 231 rfl) (fk hs 59 rfl) (fn hs 59 rfl) (vp_in_nI (by omega) (by decide)) (nI_clamp (by omega)) (by decide) ?_
      refine ex_iinc ok_X12_clear (mi 232 rfl) rfl ?_
      refine ex_goto (tgt := 370) ok_X12_clear (mi 233 rfl) rfl ?_
      rw [eq_c370]
      exact ex_ls (ls' := [(0, .ref x), (1, .int (nI (r + 1)))]) ⟨rfl, by rw [nI_succ]; rfl, trivial⟩ (ih (r + 1) (by omega))
  have k := lp 16 0 rfl
  simp only [ap_c, Nat.add_zero, ap0] at k
  exact k
theorem eq_fm0 {x r : Nat} {ws : List WT} {g : GT} : ap x ((1, 9, r, 0, (nI 0)) :: (2, 9, 0, r, (nI 0)) :: ws) g = ap x ((2, 9, 0, r + 1, (nI 0)) :: ws) g := by
  simp only [ap_c]
  rw [apst (a := 9) (lo := 0) (by omega)]
theorem lp_fm0 {G : GE} {x : Nat} {h : GT} {ws : List WT} {Q : RT → GT → Prop} (hs : sh T12 h x) (hq : ex_W G 1 0 0 M_X12_forgetMatching 42 [(0, .ref x), (1, .int (nI 0)), (2, .int (nI 300))] [] (ap x ((2, 9, 0, 300, (nI 0)) :: ws) h) Q) : ex_W G 1 0 0 M_X12_forgetMatching 16 [(0, .ref x), (1, .int (nI 0)), (2, .int (nI 0))] [] (ap x ws h) Q := by
  have lp : ∀ n r : Nat, r + n = 300 → ex_W G 1 0 0 M_X12_forgetMatching 16 [(0, .ref x), (1, .int (nI 0)), (2, .int (nI r))] [] (ap x ((2, 9, 0, r, (nI 0)) :: ws) h) Q := by
    intro n
    induction n with
    | zero =>
      intro r hr
      obtain rfl : r = 300 := by omega
      refine ex_iload_n ok_X12_forgetMatching (mi 12 rfl) rfl ?_
      refine ex_sipush ok_X12_forgetMatching (mi 13 rfl) ?_
      refine ex_icmp_ge (tgt := 42) ok_X12_forgetMatching (mi 14 rfl) rfl (fun _ => ?_) (fun hn => absurd (by decide) hn)
      exact hq
    | succ n ih =>
      intro r hrn
      have hr : r < 300 := by omega
      refine ex_iload_n ok_X12_forgetMatching (mi 12 rfl) rfl ?_
      refine ex_sipush ok_X12_forgetMatching (mi 13 rfl) ?_
      refine ex_icmp_ge (tgt := 42) ok_X12_forgetMatching (mi 14 rfl) rfl (fun h20 => False.elim (absurd h20 (nI_ge hr (by decide)))) (fun h20 => ?_)
      refine ex_aload_n ok_X12_forgetMatching (mi 15 rfl) rfl ?_
      refine ex_getRx ok_X12_forgetMatching (mi 16 rfl) rfl rfl (kq apq (fk hs 0 rfl)) (rq apq (fr hs 8 rfl)) (kq apq (fk hs 9 rfl)) (by decide) ?_
      refine ex_sipush ok_X12_forgetMatching (mi 17 rfl) ?_
      refine ex_iload_n ok_X12_forgetMatching (mi 18 rfl) rfl ?_
      refine ex_imul ok_X12_forgetMatching (mi 19 rfl) ?_
      refine ex_top (w := (nI 0)) (by decide) ?_
      refine ex_iload_n ok_X12_forgetMatching (mi 20 rfl) rfl ?_
      refine ex_iadd ok_X12_forgetMatching (mi 21 rfl) ?_
      refine ex_top (w := (nI r)) ((nI_add 0 r).trans (congrArg nI (Nat.zero_add r))) ?_
      refine ex_iconst ok_X12_forgetMatching (mi 22 rfl) ?_
      refine ex_iasta (a := 9) (j := r) (v := (nI 0)) ok_X12_forgetMatching (mi 23 rfl) (fk hs 9 rfl) (fn hs 9 rfl) (vp_in_nI (by omega) (by decide)) (nI_clamp (by omega)) (by decide) ?_
      refine ex_iinc ok_X12_forgetMatching (mi 24 rfl) rfl ?_
      refine ex_goto (tgt := 16) ok_X12_forgetMatching (mi 25 rfl) rfl ?_
      rw [eq_fm0]
      exact ex_ls (ls' := [(0, .ref x), (1, .int (nI 0)), (2, .int (nI (r + 1)))]) ⟨rfl, rfl, by rw [nI_succ]; rfl, trivial⟩ (ih (r + 1) (by omega))
  have k := lp 300 0 rfl
  simp only [ap_c, Nat.add_zero, ap0] at k
  exact k
theorem eq_fr0 {x r : Nat} {ws : List WT} {g : GT} : ap x ((1, 31, r, 0, (nI 0)) :: (2, 31, 0, r, (nI 0)) :: ws) g = ap x ((2, 31, 0, r + 1, (nI 0)) :: ws) g := by
  simp only [ap_c]
  rw [apst (a := 31) (lo := 0) (by omega)]
theorem lp_fr0 {G : GE} {x : Nat} {h : GT} {ws : List WT} {Q : RT → GT → Prop} (hs : sh T12 h x) (hq : ex_W G 1 0 0 M_X12_forgetReform 56 [(0, .ref x), (1, .int (nI 0)), (2, .int (nI 300))] [] (ap x ((2, 31, 0, 300, (nI 0)) :: ws) h) Q) : ex_W G 1 0 0 M_X12_forgetReform 30 [(0, .ref x), (1, .int (nI 0)), (2, .int (nI 0))] [] (ap x ws h) Q := by
  have lp : ∀ n r : Nat, r + n = 300 → ex_W G 1 0 0 M_X12_forgetReform 30 [(0, .ref x), (1, .int (nI 0)), (2, .int (nI r))] [] (ap x ((2, 31, 0, r, (nI 0)) :: ws) h) Q := by
    intro n
    induction n with
    | zero =>
      intro r hr
      obtain rfl : r = 300 := by omega
      refine ex_iload_n ok_X12_forgetReform (mi 22 rfl) rfl ?_
      refine ex_sipush ok_X12_forgetReform (mi 23 rfl) ?_
      refine ex_icmp_ge (tgt := 56) ok_X12_forgetReform (mi 24 rfl) rfl (fun _ => ?_) (fun hn => absurd (by decide) hn)
      exact hq
    | succ n ih =>
      intro r hrn
      have hr : r < 300 := by omega
      refine ex_iload_n ok_X12_forgetReform (mi 22 rfl) rfl ?_
      refine ex_sipush ok_X12_forgetReform (mi 23 rfl) ?_
      refine ex_icmp_ge (tgt := 56) ok_X12_forgetReform (mi 24 rfl) rfl (fun h34 => False.elim (absurd h34 (nI_ge hr (by decide)))) (fun h34 => ?_)
      refine ex_aload_n ok_X12_forgetReform (mi 25 rfl) rfl ?_
      refine ex_getRx ok_X12_forgetReform (mi 26 rfl) rfl rfl (kq apq (fk hs 0 rfl)) (rq apq (fr hs 30 rfl)) (kq apq (fk hs 31 rfl)) (by decide) ?_
      refine ex_sipush ok_X12_forgetReform (mi 27 rfl) ?_
      refine ex_iload_n ok_X12_forgetReform (mi 28 rfl) rfl ?_
      refine ex_imul ok_X12_forgetReform (mi 29 rfl) ?_
      refine ex_top (w := (nI 0)) (by decide) ?_
      refine ex_iload_n ok_X12_forgetReform (mi 30 rfl) rfl ?_
      refine ex_iadd ok_X12_forgetReform (mi 31 rfl) ?_
      refine ex_top (w := (nI r)) ((nI_add 0 r).trans (congrArg nI (Nat.zero_add r))) ?_
      refine ex_iconst ok_X12_forgetReform (mi 32 rfl) ?_
      refine ex_iasta (a := 31) (j := r) (v := (nI 0)) ok_X12_forgetReform (mi 33 rfl) (fk hs 31 rfl) (fn hs 31 rfl) (vp_in_nI (by omega) (by decide)) (nI_clamp (by omega)) (by decide) ?_
      refine ex_iinc ok_X12_forgetReform (mi 34 rfl) rfl ?_
      refine ex_goto (tgt := 30) ok_X12_forgetReform (mi 35 rfl) rfl ?_
      rw [eq_fr0]
      exact ex_ls (ls' := [(0, .ref x), (1, .int (nI 0)), (2, .int (nI (r + 1)))]) ⟨rfl, rfl, by rw [nI_succ]; rfl, trivial⟩ (ih (r + 1) (by omega))
  have k := lp 300 0 rfl
  simp only [ap_c, Nat.add_zero, ap0] at k
  exact k
theorem eq_fo0 {x r : Nat} {ws : List WT} {g : GT} : ap x ((1, 19, r, 0, (nI 0)) :: (1, 18, r, 0, (nI 0)) :: (1, 17, r, 0, ((-1))) :: (1, 16, r, 0, (nI 0)) :: (1, 12, r, 0, ((-1))) :: (2, 12, 0, r, ((-1))) :: (2, 16, 0, r, (nI 0)) :: (2, 17, 0, r, ((-1))) :: (2, 18, 0, r, (nI 0)) :: (2, 19, 0, r, (nI 0)) :: ws) g = ap x ((2, 12, 0, r + 1, ((-1))) :: (2, 16, 0, r + 1, (nI 0)) :: (2, 17, 0, r + 1, ((-1))) :: (2, 18, 0, r + 1, (nI 0)) :: (2, 19, 0, r + 1, (nI 0)) :: ws) g := by
  simp only [ap_c]
  rw [apst (a := 12) (lo := 0) (by omega), apsw (a := 16) (b := 12) (lo := 0) (hi := r + 1) (by decide), apst (a := 16) (lo := 0) (by omega), apsw (a := 17) (b := 12) (lo := 0) (hi := r + 1) (by decide), apsw (a := 17) (b := 16) (lo := 0) (hi := r + 1) (by decide), apst (a := 17) (lo := 0) (by omega), apsw (a := 18) (b := 12) (lo := 0) (hi := r + 1) (by decide), apsw (a := 18) (b := 16) (lo := 0) (hi := r + 1) (by decide), apsw (a := 18) (b := 17) (lo := 0) (hi := r + 1) (by decide), apst (a := 18) (lo := 0) (by omega), apsw (a := 19) (b := 12) (lo := 0) (hi := r + 1) (by decide), apsw (a := 19) (b := 16) (lo := 0) (hi := r + 1) (by decide), apsw (a := 19) (b := 17) (lo := 0) (hi := r + 1) (by decide), apsw (a := 19) (b := 18) (lo := 0) (hi := r + 1) (by decide), apst (a := 19) (lo := 0) (by omega)]
theorem lp_fo0 {G : GE} {x : Nat} {h : GT} {ws : List WT} {Q : RT → GT → Prop} (hs : sh T12 h x) (hq : ex_W G 2 0 0 M_X12_forgetRounds 107 [(0, .ref x), (1, .int (nI 0)), (2, .int (nI 16))] [] (ap x ((2, 12, 0, 16, ((-1))) :: (2, 16, 0, 16, (nI 0)) :: (2, 17, 0, 16, ((-1))) :: (2, 18, 0, 16, (nI 0)) :: (2, 19, 0, 16, (nI 0)) :: ws) h) Q) : ex_W G 2 0 0 M_X12_forgetRounds 35 [(0, .ref x), (1, .int (nI 0)), (2, .int (nI 0))] [] (ap x ws h) Q := by
  have lp : ∀ n r : Nat, r + n = 16 → ex_W G 2 0 0 M_X12_forgetRounds 35 [(0, .ref x), (1, .int (nI 0)), (2, .int (nI r))] [] (ap x ((2, 12, 0, r, ((-1))) :: (2, 16, 0, r, (nI 0)) :: (2, 17, 0, r, ((-1))) :: (2, 18, 0, r, (nI 0)) :: (2, 19, 0, r, (nI 0)) :: ws) h) Q := by
    intro n
    induction n with
    | zero =>
      intro r hr
      obtain rfl : r = 16 := by omega
      refine ex_iload_n ok_X12_forgetRounds (mi 25 rfl) rfl ?_
      refine ex_bipush ok_X12_forgetRounds (mi 26 rfl) ?_
      refine ex_icmp_ge (tgt := 107) ok_X12_forgetRounds (mi 27 rfl) rfl (fun _ => ?_) (fun hn => absurd (by decide) hn)
      exact hq
    | succ n ih =>
      intro r hrn
      have hr : r < 16 := by omega
      refine ex_iload_n ok_X12_forgetRounds (mi 25 rfl) rfl ?_
      refine ex_bipush ok_X12_forgetRounds (mi 26 rfl) ?_
      refine ex_icmp_ge (tgt := 107) ok_X12_forgetRounds (mi 27 rfl) rfl (fun h38 => False.elim (absurd h38 (nI_ge hr (by decide)))) (fun h38 => ?_)
      refine ex_aload_n ok_X12_forgetRounds (mi 28 rfl) rfl ?_
      refine ex_getRx ok_X12_forgetRounds (mi 29 rfl) rfl rfl (kq apq (fk hs 0 rfl)) (rq apq (fr hs 11 rfl)) (kq apq (fk hs 12 rfl)) (by decide) ?_
      refine ex_bipush ok_X12_forgetRounds (mi 30 rfl) ?_
      refine ex_iload_n ok_X12_forgetRounds (mi 31 rfl) rfl ?_
      refine ex_imul ok_X12_forgetRounds (mi 32 rfl) ?_
      refine ex_top (w := (nI 0)) (by decide) ?_
      refine ex_iload_n ok_X12_forgetRounds (mi 33 rfl) rfl ?_
      refine ex_iadd ok_X12_forgetRounds (mi 34 rfl) ?_
      refine ex_top (w := (nI r)) ((nI_add 0 r).trans (congrArg nI (Nat.zero_add r))) ?_
      refine ex_iconst ok_X12_forgetRounds (mi 35 rfl) ?_
      refine ex_iasta (a := 12) (j := r) (v := (-1)) ok_X12_forgetRounds (mi 36 rfl) (fk hs 12 rfl) (fn hs 12 rfl) (vp_in_nI (by omega) (by decide)) (nI_clamp (by omega)) (by decide) ?_
      refine ex_aload_n ok_X12_forgetRounds (mi 37 rfl) rfl ?_
      refine ex_getRx ok_X12_forgetRounds (mi 38 rfl) rfl rfl (kq apq (fk hs 0 rfl)) (rq apq (fr hs 15 rfl)) (kq apq (fk hs 16 rfl)) (by decide) ?_
      refine ex_bipush ok_X12_forgetRounds (mi 39 rfl) ?_
      refine ex_iload_n ok_X12_forgetRounds (mi 40 rfl) rfl ?_
      refine ex_imul ok_X12_forgetRounds (mi 41 rfl) ?_
      refine ex_top (w := (nI 0)) (by decide) ?_
      refine ex_iload_n ok_X12_forgetRounds (mi 42 rfl) rfl ?_
      refine ex_iadd ok_X12_forgetRounds (mi 43 rfl) ?_
      refine ex_top (w := (nI r)) ((nI_add 0 r).trans (congrArg nI (Nat.zero_add r))) ?_
      refine ex_iconst ok_X12_forgetRounds (mi 44 rfl) ?_
      refine ex_iasta (a := 16) (j := r) (v := (nI 0)) ok_X12_forgetRounds (mi 45 rfl) (fk hs 16 rfl) (fn hs 16 rfl) (vp_in_nI (by omega) (by decide)) (nI_clamp (by omega)) (by decide) ?_
      refine ex_aload_n ok_X12_forgetRounds (mi 46 rfl) rfl ?_
      refine ex_getRx ok_X12_forgetRounds (mi 47 rfl) rfl rfl (kq apq (fk hs 0 rfl)) (rq apq (fr hs 16 rfl)) (kq apq (fk hs 17 rfl)) (by decide) ?_
      refine ex_bipush ok_X12_forgetRounds (mi 48 rfl) ?_
      refine ex_iload_n ok_X12_forgetRounds (mi 49 rfl) rfl ?_
      refine ex_imul ok_X12_forgetRounds (mi 50 rfl) ?_
      refine ex_top (w := (nI 0)) (by decide) ?_
      refine ex_iload_n ok_X12_forgetRounds (mi 51 rfl) rfl ?_
      refine ex_iadd ok_X12_forgetRounds (mi 52 rfl) ?_
      refine ex_top (w := (nI r)) ((nI_add 0 r).trans (congrArg nI (Nat.zero_add r))) ?_
      refine ex_iconst ok_X12_forgetRounds (mi 53 rfl) ?_
      refine ex_iasta (a := 17) (j := r) (v := (-1)) ok_X12_forgetRounds (mi 54 rfl) (fk hs 17 rfl) (fn hs 17 rfl) (vp_in_nI (by omega) (by decide)) (nI_clamp (by omega)) (by decide) ?_
      refine ex_aload_n ok_X12_forgetRounds (mi 55 rfl) rfl ?_
      refine ex_getRx ok_X12_forgetRounds (mi 56 rfl) rfl rfl (kq apq (fk hs 0 rfl)) (rq apq (fr hs 17 rfl)) (kq apq (fk hs 18 rfl)) (by decide) ?_
      refine ex_bipush ok_X12_forgetRounds (mi 57 rfl) ?_
      refine ex_iload_n ok_X12_forgetRounds (mi 58 rfl) rfl ?_
      refine ex_imul ok_X12_forgetRounds (mi 59 rfl) ?_
      refine ex_top (w := (nI 0)) (by decide) ?_
      refine ex_iload_n ok_X12_forgetRounds (mi 60 rfl) rfl ?_
      refine ex_iadd ok_X12_forgetRounds (mi 61 rfl) ?_
      refine ex_top (w := (nI r)) ((nI_add 0 r).trans (congrArg nI (Nat.zero_add r))) ?_
      refine ex_iconst ok_X12_forgetRounds (mi 62 rfl) ?_
      refine ex_iasta (a := 18) (j := r) (v := (nI 0)) ok_X12_forgetRounds (mi 63 rfl) (fk hs 18 rfl) (fn hs 18 rfl) (vp_in_nI (by omega) (by decide)) (nI_clamp (by omega)) (by decide) ?_
      refine ex_aload_n ok_X12_forgetRounds (mi 64 rfl) rfl ?_
      refine ex_getRx ok_X12_forgetRounds (mi 65 rfl) rfl rfl (kq apq (fk hs 0 rfl)) (rq apq (fr hs 18 rfl)) (kq apq (fk hs 19 rfl)) (by decide) ?_
      refine ex_bipush ok_X12_forgetRounds (mi 66 rfl) ?_
      refine ex_iload_n ok_X12_forgetRounds (mi 67 rfl) rfl ?_
      refine ex_imul ok_X12_forgetRounds (mi 68 rfl) ?_
      refine ex_top (w := (nI 0)) (by decide) ?_
      refine ex_iload_n ok_X12_forgetRounds (mi 69 rfl) rfl ?_
      refine ex_iadd ok_X12_forgetRounds (mi 70 rfl) ?_
      refine ex_top (w := (nI r)) ((nI_add 0 r).trans (congrArg nI (Nat.zero_add r))) ?_
      refine ex_iconst ok_X12_forgetRounds (mi 71 rfl) ?_
      refine ex_iasta (a := 19) (j := r) (v := (nI 0)) ok_X12_forgetRounds (mi 72 rfl) (fk hs 19 rfl) (fn hs 19 rfl) (vp_in_nI (by omega) (by decide)) (nI_clamp (by omega)) (by decide) ?_
      refine ex_iinc ok_X12_forgetRounds (mi 73 rfl) rfl ?_
      refine ex_goto (tgt := 35) ok_X12_forgetRounds (mi 74 rfl) rfl ?_
      rw [eq_fo0]
      exact ex_ls (ls' := [(0, .ref x), (1, .int (nI 0)), (2, .int (nI (r + 1)))]) ⟨rfl, rfl, by rw [nI_succ]; rfl, trivial⟩ (ih (r + 1) (by omega))
  have k := lp 16 0 rfl
  simp only [ap_c, Nat.add_zero, ap0] at k
  exact k
theorem eq_fm1 {x r : Nat} {ws : List WT} {g : GT} : ap x ((1, 9, 300 + r, 0, (nI 0)) :: (2, 9, 300, 300 + r, (nI 0)) :: ws) g = ap x ((2, 9, 300, 300 + r + 1, (nI 0)) :: ws) g := by
  simp only [ap_c]
  rw [apst (a := 9) (lo := 300) (by omega)]
theorem lp_fm1 {G : GE} {x : Nat} {h : GT} {ws : List WT} {Q : RT → GT → Prop} (hs : sh T12 h x) (hq : ex_W G 1 0 0 M_X12_forgetMatching 42 [(0, .ref x), (1, .int (nI 1)), (2, .int (nI 300))] [] (ap x ((2, 9, 300, 600, (nI 0)) :: ws) h) Q) : ex_W G 1 0 0 M_X12_forgetMatching 16 [(0, .ref x), (1, .int (nI 1)), (2, .int (nI 0))] [] (ap x ws h) Q := by
  have lp : ∀ n r : Nat, r + n = 300 → ex_W G 1 0 0 M_X12_forgetMatching 16 [(0, .ref x), (1, .int (nI 1)), (2, .int (nI r))] [] (ap x ((2, 9, 300, 300 + r, (nI 0)) :: ws) h) Q := by
    intro n
    induction n with
    | zero =>
      intro r hr
      obtain rfl : r = 300 := by omega
      refine ex_iload_n ok_X12_forgetMatching (mi 12 rfl) rfl ?_
      refine ex_sipush ok_X12_forgetMatching (mi 13 rfl) ?_
      refine ex_icmp_ge (tgt := 42) ok_X12_forgetMatching (mi 14 rfl) rfl (fun _ => ?_) (fun hn => absurd (by decide) hn)
      exact hq
    | succ n ih =>
      intro r hrn
      have hr : r < 300 := by omega
      refine ex_iload_n ok_X12_forgetMatching (mi 12 rfl) rfl ?_
      refine ex_sipush ok_X12_forgetMatching (mi 13 rfl) ?_
      refine ex_icmp_ge (tgt := 42) ok_X12_forgetMatching (mi 14 rfl) rfl (fun h20 => False.elim (absurd h20 (nI_ge hr (by decide)))) (fun h20 => ?_)
      refine ex_aload_n ok_X12_forgetMatching (mi 15 rfl) rfl ?_
      refine ex_getRx ok_X12_forgetMatching (mi 16 rfl) rfl rfl (kq apq (fk hs 0 rfl)) (rq apq (fr hs 8 rfl)) (kq apq (fk hs 9 rfl)) (by decide) ?_
      refine ex_sipush ok_X12_forgetMatching (mi 17 rfl) ?_
      refine ex_iload_n ok_X12_forgetMatching (mi 18 rfl) rfl ?_
      refine ex_imul ok_X12_forgetMatching (mi 19 rfl) ?_
      refine ex_top (w := (nI 300)) (by decide) ?_
      refine ex_iload_n ok_X12_forgetMatching (mi 20 rfl) rfl ?_
      refine ex_iadd ok_X12_forgetMatching (mi 21 rfl) ?_
      refine ex_top (w := (nI (300 + r))) (nI_add 300 r) ?_
      refine ex_iconst ok_X12_forgetMatching (mi 22 rfl) ?_
      refine ex_iasta (a := 9) (j := 300 + r) (v := (nI 0)) ok_X12_forgetMatching (mi 23 rfl) (fk hs 9 rfl) (fn hs 9 rfl) (vp_in_nI (by omega) (by decide)) (nI_clamp (by omega)) (by decide) ?_
      refine ex_iinc ok_X12_forgetMatching (mi 24 rfl) rfl ?_
      refine ex_goto (tgt := 16) ok_X12_forgetMatching (mi 25 rfl) rfl ?_
      rw [eq_fm1]
      exact ex_ls (ls' := [(0, .ref x), (1, .int (nI 1)), (2, .int (nI (r + 1)))]) ⟨rfl, rfl, by rw [nI_succ]; rfl, trivial⟩ (ih (r + 1) (by omega))
  have k := lp 300 0 rfl
  simp only [ap_c, Nat.add_zero, ap0] at k
  exact k
theorem eq_fr1 {x r : Nat} {ws : List WT} {g : GT} : ap x ((1, 31, 300 + r, 0, (nI 0)) :: (2, 31, 300, 300 + r, (nI 0)) :: ws) g = ap x ((2, 31, 300, 300 + r + 1, (nI 0)) :: ws) g := by
  simp only [ap_c]
  rw [apst (a := 31) (lo := 300) (by omega)]
theorem lp_fr1 {G : GE} {x : Nat} {h : GT} {ws : List WT} {Q : RT → GT → Prop} (hs : sh T12 h x) (hq : ex_W G 1 0 0 M_X12_forgetReform 56 [(0, .ref x), (1, .int (nI 1)), (2, .int (nI 300))] [] (ap x ((2, 31, 300, 600, (nI 0)) :: ws) h) Q) : ex_W G 1 0 0 M_X12_forgetReform 30 [(0, .ref x), (1, .int (nI 1)), (2, .int (nI 0))] [] (ap x ws h) Q := by
  have lp : ∀ n r : Nat, r + n = 300 → ex_W G 1 0 0 M_X12_forgetReform 30 [(0, .ref x), (1, .int (nI 1)), (2, .int (nI r))] [] (ap x ((2, 31, 300, 300 + r, (nI 0)) :: ws) h) Q := by
    intro n
    induction n with
    | zero =>
      intro r hr
      obtain rfl : r = 300 := by omega
      refine ex_iload_n ok_X12_forgetReform (mi 22 rfl) rfl ?_
      refine ex_sipush ok_X12_forgetReform (mi 23 rfl) ?_
      refine ex_icmp_ge (tgt := 56) ok_X12_forgetReform (mi 24 rfl) rfl (fun _ => ?_) (fun hn => absurd (by decide) hn)
      exact hq
    | succ n ih =>
      intro r hrn
      have hr : r < 300 := by omega
      refine ex_iload_n ok_X12_forgetReform (mi 22 rfl) rfl ?_
      refine ex_sipush ok_X12_forgetReform (mi 23 rfl) ?_
      refine ex_icmp_ge (tgt := 56) ok_X12_forgetReform (mi 24 rfl) rfl (fun h34 => False.elim (absurd h34 (nI_ge hr (by decide)))) (fun h34 => ?_)
      refine ex_aload_n ok_X12_forgetReform (mi 25 rfl) rfl ?_
      refine ex_getRx ok_X12_forgetReform (mi 26 rfl) rfl rfl (kq apq (fk hs 0 rfl)) (rq apq (fr hs 30 rfl)) (kq apq (fk hs 31 rfl)) (by decide) ?_
      refine ex_sipush ok_X12_forgetReform (mi 27 rfl) ?_
      refine ex_iload_n ok_X12_forgetReform (mi 28 rfl) rfl ?_
      refine ex_imul ok_X12_forgetReform (mi 29 rfl) ?_
      refine ex_top (w := (nI 300)) (by decide) ?_
      refine ex_iload_n ok_X12_forgetReform (mi 30 rfl) rfl ?_
      refine ex_iadd ok_X12_forgetReform (mi 31 rfl) ?_
      refine ex_top (w := (nI (300 + r))) (nI_add 300 r) ?_
      refine ex_iconst ok_X12_forgetReform (mi 32 rfl) ?_
      refine ex_iasta (a := 31) (j := 300 + r) (v := (nI 0)) ok_X12_forgetReform (mi 33 rfl) (fk hs 31 rfl) (fn hs 31 rfl) (vp_in_nI (by omega) (by decide)) (nI_clamp (by omega)) (by decide) ?_
      refine ex_iinc ok_X12_forgetReform (mi 34 rfl) rfl ?_
      refine ex_goto (tgt := 30) ok_X12_forgetReform (mi 35 rfl) rfl ?_
      rw [eq_fr1]
      exact ex_ls (ls' := [(0, .ref x), (1, .int (nI 1)), (2, .int (nI (r + 1)))]) ⟨rfl, rfl, by rw [nI_succ]; rfl, trivial⟩ (ih (r + 1) (by omega))
  have k := lp 300 0 rfl
  simp only [ap_c, Nat.add_zero, ap0] at k
  exact k
theorem eq_fo1 {x r : Nat} {ws : List WT} {g : GT} : ap x ((1, 19, 16 + r, 0, (nI 0)) :: (1, 18, 16 + r, 0, (nI 0)) :: (1, 17, 16 + r, 0, ((-1))) :: (1, 16, 16 + r, 0, (nI 0)) :: (1, 12, 16 + r, 0, ((-1))) :: (2, 12, 16, 16 + r, ((-1))) :: (2, 16, 16, 16 + r, (nI 0)) :: (2, 17, 16, 16 + r, ((-1))) :: (2, 18, 16, 16 + r, (nI 0)) :: (2, 19, 16, 16 + r, (nI 0)) :: ws) g = ap x ((2, 12, 16, 16 + r + 1, ((-1))) :: (2, 16, 16, 16 + r + 1, (nI 0)) :: (2, 17, 16, 16 + r + 1, ((-1))) :: (2, 18, 16, 16 + r + 1, (nI 0)) :: (2, 19, 16, 16 + r + 1, (nI 0)) :: ws) g := by
  simp only [ap_c]
  rw [apst (a := 12) (lo := 16) (by omega), apsw (a := 16) (b := 12) (lo := 16) (hi := 16 + r + 1) (by decide), apst (a := 16) (lo := 16) (by omega), apsw (a := 17) (b := 12) (lo := 16) (hi := 16 + r + 1) (by decide), apsw (a := 17) (b := 16) (lo := 16) (hi := 16 + r + 1) (by decide), apst (a := 17) (lo := 16) (by omega), apsw (a := 18) (b := 12) (lo := 16) (hi := 16 + r + 1) (by decide), apsw (a := 18) (b := 16) (lo := 16) (hi := 16 + r + 1) (by decide), apsw (a := 18) (b := 17) (lo := 16) (hi := 16 + r + 1) (by decide), apst (a := 18) (lo := 16) (by omega), apsw (a := 19) (b := 12) (lo := 16) (hi := 16 + r + 1) (by decide), apsw (a := 19) (b := 16) (lo := 16) (hi := 16 + r + 1) (by decide), apsw (a := 19) (b := 17) (lo := 16) (hi := 16 + r + 1) (by decide), apsw (a := 19) (b := 18) (lo := 16) (hi := 16 + r + 1) (by decide), apst (a := 19) (lo := 16) (by omega)]
theorem lp_fo1 {G : GE} {x : Nat} {h : GT} {ws : List WT} {Q : RT → GT → Prop} (hs : sh T12 h x) (hq : ex_W G 2 0 0 M_X12_forgetRounds 107 [(0, .ref x), (1, .int (nI 1)), (2, .int (nI 16))] [] (ap x ((2, 12, 16, 32, ((-1))) :: (2, 16, 16, 32, (nI 0)) :: (2, 17, 16, 32, ((-1))) :: (2, 18, 16, 32, (nI 0)) :: (2, 19, 16, 32, (nI 0)) :: ws) h) Q) : ex_W G 2 0 0 M_X12_forgetRounds 35 [(0, .ref x), (1, .int (nI 1)), (2, .int (nI 0))] [] (ap x ws h) Q := by
  have lp : ∀ n r : Nat, r + n = 16 → ex_W G 2 0 0 M_X12_forgetRounds 35 [(0, .ref x), (1, .int (nI 1)), (2, .int (nI r))] [] (ap x ((2, 12, 16, 16 + r, ((-1))) :: (2, 16, 16, 16 + r, (nI 0)) :: (2, 17, 16, 16 + r, ((-1))) :: (2, 18, 16, 16 + r, (nI 0)) :: (2, 19, 16, 16 + r, (nI 0)) :: ws) h) Q := by
    intro n
    induction n with
    | zero =>
      intro r hr
      obtain rfl : r = 16 := by omega
      refine ex_iload_n ok_X12_forgetRounds (mi 25 rfl) rfl ?_
      refine ex_bipush ok_X12_forgetRounds (mi 26 rfl) ?_
      refine ex_icmp_ge (tgt := 107) ok_X12_forgetRounds (mi 27 rfl) rfl (fun _ => ?_) (fun hn => absurd (by decide) hn)
      exact hq
    | succ n ih =>
      intro r hrn
      have hr : r < 16 := by omega
      refine ex_iload_n ok_X12_forgetRounds (mi 25 rfl) rfl ?_
      refine ex_bipush ok_X12_forgetRounds (mi 26 rfl) ?_
      refine ex_icmp_ge (tgt := 107) ok_X12_forgetRounds (mi 27 rfl) rfl (fun h38 => False.elim (absurd h38 (nI_ge hr (by decide)))) (fun h38 => ?_)
      refine ex_aload_n ok_X12_forgetRounds (mi 28 rfl) rfl ?_
      refine ex_getRx ok_X12_forgetRounds (mi 29 rfl) rfl rfl (kq apq (fk hs 0 rfl)) (rq apq (fr hs 11 rfl)) (kq apq (fk hs 12 rfl)) (by decide) ?_
      refine ex_bipush ok_X12_forgetRounds (mi 30 rfl) ?_
      refine ex_iload_n ok_X12_forgetRounds (mi 31 rfl) rfl ?_
      refine ex_imul ok_X12_forgetRounds (mi 32 rfl) ?_
      refine ex_top (w := (nI 16)) (by decide) ?_
      refine ex_iload_n ok_X12_forgetRounds (mi 33 rfl) rfl ?_
      refine ex_iadd ok_X12_forgetRounds (mi 34 rfl) ?_
      refine ex_top (w := (nI (16 + r))) (nI_add 16 r) ?_
      refine ex_iconst ok_X12_forgetRounds (mi 35 rfl) ?_
      refine ex_iasta (a := 12) (j := 16 + r) (v := (-1)) ok_X12_forgetRounds (mi 36 rfl) (fk hs 12 rfl) (fn hs 12 rfl) (vp_in_nI (by omega) (by decide)) (nI_clamp (by omega)) (by decide) ?_
      refine ex_aload_n ok_X12_forgetRounds (mi 37 rfl) rfl ?_
      refine ex_getRx ok_X12_forgetRounds (mi 38 rfl) rfl rfl (kq apq (fk hs 0 rfl)) (rq apq (fr hs 15 rfl)) (kq apq (fk hs 16 rfl)) (by decide) ?_
      refine ex_bipush ok_X12_forgetRounds (mi 39 rfl) ?_
      refine ex_iload_n ok_X12_forgetRounds (mi 40 rfl) rfl ?_
      refine ex_imul ok_X12_forgetRounds (mi 41 rfl) ?_
      refine ex_top (w := (nI 16)) (by decide) ?_
      refine ex_iload_n ok_X12_forgetRounds (mi 42 rfl) rfl ?_
      refine ex_iadd ok_X12_forgetRounds (mi 43 rfl) ?_
      refine ex_top (w := (nI (16 + r))) (nI_add 16 r) ?_
      refine ex_iconst ok_X12_forgetRounds (mi 44 rfl) ?_
      refine ex_iasta (a := 16) (j := 16 + r) (v := (nI 0)) ok_X12_forgetRounds (mi 45 rfl) (fk hs 16 rfl) (fn hs 16 rfl) (vp_in_nI (by omega) (by decide)) (nI_clamp (by omega)) (by decide) ?_
      refine ex_aload_n ok_X12_forgetRounds (mi 46 rfl) rfl ?_
      refine ex_getRx ok_X12_forgetRounds (mi 47 rfl) rfl rfl (kq apq (fk hs 0 rfl)) (rq apq (fr hs 16 rfl)) (kq apq (fk hs 17 rfl)) (by decide) ?_
      refine ex_bipush ok_X12_forgetRounds (mi 48 rfl) ?_
      refine ex_iload_n ok_X12_forgetRounds (mi 49 rfl) rfl ?_
      refine ex_imul ok_X12_forgetRounds (mi 50 rfl) ?_
      refine ex_top (w := (nI 16)) (by decide) ?_
      refine ex_iload_n ok_X12_forgetRounds (mi 51 rfl) rfl ?_
      refine ex_iadd ok_X12_forgetRounds (mi 52 rfl) ?_
      refine ex_top (w := (nI (16 + r))) (nI_add 16 r) ?_
      refine ex_iconst ok_X12_forgetRounds (mi 53 rfl) ?_
      refine ex_iasta (a := 17) (j := 16 + r) (v := (-1)) ok_X12_forgetRounds (mi 54 rfl) (fk hs 17 rfl) (fn hs 17 rfl) (vp_in_nI (by omega) (by decide)) (nI_clamp (by omega)) (by decide) ?_
      refine ex_aload_n ok_X12_forgetRounds (mi 55 rfl) rfl ?_
      refine ex_getRx ok_X12_forgetRounds (mi 56 rfl) rfl rfl (kq apq (fk hs 0 rfl)) (rq apq (fr hs 17 rfl)) (kq apq (fk hs 18 rfl)) (by decide) ?_
      refine ex_bipush ok_X12_forgetRounds (mi 57 rfl) ?_
      refine ex_iload_n ok_X12_forgetRounds (mi 58 rfl) rfl ?_
      refine ex_imul ok_X12_forgetRounds (mi 59 rfl) ?_
      refine ex_top (w := (nI 16)) (by decide) ?_
      refine ex_iload_n ok_X12_forgetRounds (mi 60 rfl) rfl ?_
      refine ex_iadd ok_X12_forgetRounds (mi 61 rfl) ?_
      refine ex_top (w := (nI (16 + r))) (nI_add 16 r) ?_
      refine ex_iconst ok_X12_forgetRounds (mi 62 rfl) ?_
      refine ex_iasta (a := 18) (j := 16 + r) (v := (nI 0)) ok_X12_forgetRounds (mi 63 rfl) (fk hs 18 rfl) (fn hs 18 rfl) (vp_in_nI (by omega) (by decide)) (nI_clamp (by omega)) (by decide) ?_
      refine ex_aload_n ok_X12_forgetRounds (mi 64 rfl) rfl ?_
      refine ex_getRx ok_X12_forgetRounds (mi 65 rfl) rfl rfl (kq apq (fk hs 0 rfl)) (rq apq (fr hs 18 rfl)) (kq apq (fk hs 19 rfl)) (by decide) ?_
      refine ex_bipush ok_X12_forgetRounds (mi 66 rfl) ?_
      refine ex_iload_n ok_X12_forgetRounds (mi 67 rfl) rfl ?_
      refine ex_imul ok_X12_forgetRounds (mi 68 rfl) ?_
      refine ex_top (w := (nI 16)) (by decide) ?_
      refine ex_iload_n ok_X12_forgetRounds (mi 69 rfl) rfl ?_
      refine ex_iadd ok_X12_forgetRounds (mi 70 rfl) ?_
      refine ex_top (w := (nI (16 + r))) (nI_add 16 r) ?_
      refine ex_iconst ok_X12_forgetRounds (mi 71 rfl) ?_
      refine ex_iasta (a := 19) (j := 16 + r) (v := (nI 0)) ok_X12_forgetRounds (mi 72 rfl) (fk hs 19 rfl) (fn hs 19 rfl) (vp_in_nI (by omega) (by decide)) (nI_clamp (by omega)) (by decide) ?_
      refine ex_iinc ok_X12_forgetRounds (mi 73 rfl) rfl ?_
      refine ex_goto (tgt := 35) ok_X12_forgetRounds (mi 74 rfl) rfl ?_
      rw [eq_fo1]
      exact ex_ls (ls' := [(0, .ref x), (1, .int (nI 1)), (2, .int (nI (r + 1)))]) ⟨rfl, rfl, by rw [nI_succ]; rfl, trivial⟩ (ih (r + 1) (by omega))
  have k := lp 16 0 rfl
  simp only [ap_c, Nat.add_zero, ap0] at k
  exact k
theorem eq_fm2 {x r : Nat} {ws : List WT} {g : GT} : ap x ((1, 9, 600 + r, 0, (nI 0)) :: (2, 9, 600, 600 + r, (nI 0)) :: ws) g = ap x ((2, 9, 600, 600 + r + 1, (nI 0)) :: ws) g := by
  simp only [ap_c]
  rw [apst (a := 9) (lo := 600) (by omega)]
theorem lp_fm2 {G : GE} {x : Nat} {h : GT} {ws : List WT} {Q : RT → GT → Prop} (hs : sh T12 h x) (hq : ex_W G 1 0 0 M_X12_forgetMatching 42 [(0, .ref x), (1, .int (nI 2)), (2, .int (nI 300))] [] (ap x ((2, 9, 600, 900, (nI 0)) :: ws) h) Q) : ex_W G 1 0 0 M_X12_forgetMatching 16 [(0, .ref x), (1, .int (nI 2)), (2, .int (nI 0))] [] (ap x ws h) Q := by
  have lp : ∀ n r : Nat, r + n = 300 → ex_W G 1 0 0 M_X12_forgetMatching 16 [(0, .ref x), (1, .int (nI 2)), (2, .int (nI r))] [] (ap x ((2, 9, 600, 600 + r, (nI 0)) :: ws) h) Q := by
    intro n
    induction n with
    | zero =>
      intro r hr
      obtain rfl : r = 300 := by omega
      refine ex_iload_n ok_X12_forgetMatching (mi 12 rfl) rfl ?_
      refine ex_sipush ok_X12_forgetMatching (mi 13 rfl) ?_
      refine ex_icmp_ge (tgt := 42) ok_X12_forgetMatching (mi 14 rfl) rfl (fun _ => ?_) (fun hn => absurd (by decide) hn)
      exact hq
    | succ n ih =>
      intro r hrn
      have hr : r < 300 := by omega
      refine ex_iload_n ok_X12_forgetMatching (mi 12 rfl) rfl ?_
      refine ex_sipush ok_X12_forgetMatching (mi 13 rfl) ?_
      refine ex_icmp_ge (tgt := 42) ok_X12_forgetMatching (mi 14 rfl) rfl (fun h20 => False.elim (absurd h20 (nI_ge hr (by decide)))) (fun h20 => ?_)
      refine ex_aload_n ok_X12_forgetMatching (mi 15 rfl) rfl ?_
      refine ex_getRx ok_X12_forgetMatching (mi 16 rfl) rfl rfl (kq apq (fk hs 0 rfl)) (rq apq (fr hs 8 rfl)) (kq apq (fk hs 9 rfl)) (by decide) ?_
      refine ex_sipush ok_X12_forgetMatching (mi 17 rfl) ?_
      refine ex_iload_n ok_X12_forgetMatching (mi 18 rfl) rfl ?_
      refine ex_imul ok_X12_forgetMatching (mi 19 rfl) ?_
      refine ex_top (w := (nI 600)) (by decide) ?_
      refine ex_iload_n ok_X12_forgetMatching (mi 20 rfl) rfl ?_
      refine ex_iadd ok_X12_forgetMatching (mi 21 rfl) ?_
      refine ex_top (w := (nI (600 + r))) (nI_add 600 r) ?_
      refine ex_iconst ok_X12_forgetMatching (mi 22 rfl) ?_
      refine ex_iasta (a := 9) (j := 600 + r) (v := (nI 0)) ok_X12_forgetMatching (mi 23 rfl) (fk hs 9 rfl) (fn hs 9 rfl) (vp_in_nI (by omega) (by decide)) (nI_clamp (by omega)) (by decide) ?_
      refine ex_iinc ok_X12_forgetMatching (mi 24 rfl) rfl ?_
      refine ex_goto (tgt := 16) ok_X12_forgetMatching (mi 25 rfl) rfl ?_
      rw [eq_fm2]
      exact ex_ls (ls' := [(0, .ref x), (1, .int (nI 2)), (2, .int (nI (r + 1)))]) ⟨rfl, rfl, by rw [nI_succ]; rfl, trivial⟩ (ih (r + 1) (by omega))
  have k := lp 300 0 rfl
  simp only [ap_c, Nat.add_zero, ap0] at k
  exact k
theorem eq_fr2 {x r : Nat} {ws : List WT} {g : GT} : ap x ((1, 31, 600 + r, 0, (nI 0)) :: (2, 31, 600, 600 + r, (nI 0)) :: ws) g = ap x ((2, 31, 600, 600 + r + 1, (nI 0)) :: ws) g := by
  simp only [ap_c]
  rw [apst (a := 31) (lo := 600) (by omega)]
theorem lp_fr2 {G : GE} {x : Nat} {h : GT} {ws : List WT} {Q : RT → GT → Prop} (hs : sh T12 h x) (hq : ex_W G 1 0 0 M_X12_forgetReform 56 [(0, .ref x), (1, .int (nI 2)), (2, .int (nI 300))] [] (ap x ((2, 31, 600, 900, (nI 0)) :: ws) h) Q) : ex_W G 1 0 0 M_X12_forgetReform 30 [(0, .ref x), (1, .int (nI 2)), (2, .int (nI 0))] [] (ap x ws h) Q := by
  have lp : ∀ n r : Nat, r + n = 300 → ex_W G 1 0 0 M_X12_forgetReform 30 [(0, .ref x), (1, .int (nI 2)), (2, .int (nI r))] [] (ap x ((2, 31, 600, 600 + r, (nI 0)) :: ws) h) Q := by
    intro n
    induction n with
    | zero =>
      intro r hr
      obtain rfl : r = 300 := by omega
      refine ex_iload_n ok_X12_forgetReform (mi 22 rfl) rfl ?_
      refine ex_sipush ok_X12_forgetReform (mi 23 rfl) ?_
      refine ex_icmp_ge (tgt := 56) ok_X12_forgetReform (mi 24 rfl) rfl (fun _ => ?_) (fun hn => absurd (by decide) hn)
      exact hq
    | succ n ih =>
      intro r hrn
      have hr : r < 300 := by omega
      refine ex_iload_n ok_X12_forgetReform (mi 22 rfl) rfl ?_
      refine ex_sipush ok_X12_forgetReform (mi 23 rfl) ?_
      refine ex_icmp_ge (tgt := 56) ok_X12_forgetReform (mi 24 rfl) rfl (fun h34 => False.elim (absurd h34 (nI_ge hr (by decide)))) (fun h34 => ?_)
      refine ex_aload_n ok_X12_forgetReform (mi 25 rfl) rfl ?_
      refine ex_getRx ok_X12_forgetReform (mi 26 rfl) rfl rfl (kq apq (fk hs 0 rfl)) (rq apq (fr hs 30 rfl)) (kq apq (fk hs 31 rfl)) (by decide) ?_
      refine ex_sipush ok_X12_forgetReform (mi 27 rfl) ?_
      refine ex_iload_n ok_X12_forgetReform (mi 28 rfl) rfl ?_
      refine ex_imul ok_X12_forgetReform (mi 29 rfl) ?_
      refine ex_top (w := (nI 600)) (by decide) ?_
      refine ex_iload_n ok_X12_forgetReform (mi 30 rfl) rfl ?_
      refine ex_iadd ok_X12_forgetReform (mi 31 rfl) ?_
      refine ex_top (w := (nI (600 + r))) (nI_add 600 r) ?_
      refine ex_iconst ok_X12_forgetReform (mi 32 rfl) ?_
      refine ex_iasta (a := 31) (j := 600 + r) (v := (nI 0)) ok_X12_forgetReform (mi 33 rfl) (fk hs 31 rfl) (fn hs 31 rfl) (vp_in_nI (by omega) (by decide)) (nI_clamp (by omega)) (by decide) ?_
      refine ex_iinc ok_X12_forgetReform (mi 34 rfl) rfl ?_
      refine ex_goto (tgt := 30) ok_X12_forgetReform (mi 35 rfl) rfl ?_
      rw [eq_fr2]
      exact ex_ls (ls' := [(0, .ref x), (1, .int (nI 2)), (2, .int (nI (r + 1)))]) ⟨rfl, rfl, by rw [nI_succ]; rfl, trivial⟩ (ih (r + 1) (by omega))
  have k := lp 300 0 rfl
  simp only [ap_c, Nat.add_zero, ap0] at k
  exact k
theorem eq_fo2 {x r : Nat} {ws : List WT} {g : GT} : ap x ((1, 19, 32 + r, 0, (nI 0)) :: (1, 18, 32 + r, 0, (nI 0)) :: (1, 17, 32 + r, 0, ((-1))) :: (1, 16, 32 + r, 0, (nI 0)) :: (1, 12, 32 + r, 0, ((-1))) :: (2, 12, 32, 32 + r, ((-1))) :: (2, 16, 32, 32 + r, (nI 0)) :: (2, 17, 32, 32 + r, ((-1))) :: (2, 18, 32, 32 + r, (nI 0)) :: (2, 19, 32, 32 + r, (nI 0)) :: ws) g = ap x ((2, 12, 32, 32 + r + 1, ((-1))) :: (2, 16, 32, 32 + r + 1, (nI 0)) :: (2, 17, 32, 32 + r + 1, ((-1))) :: (2, 18, 32, 32 + r + 1, (nI 0)) :: (2, 19, 32, 32 + r + 1, (nI 0)) :: ws) g := by
  simp only [ap_c]
  rw [apst (a := 12) (lo := 32) (by omega), apsw (a := 16) (b := 12) (lo := 32) (hi := 32 + r + 1) (by decide), apst (a := 16) (lo := 32) (by omega), apsw (a := 17) (b := 12) (lo := 32) (hi := 32 + r + 1) (by decide), apsw (a := 17) (b := 16) (lo := 32) (hi := 32 + r + 1) (by decide), apst (a := 17) (lo := 32) (by omega), apsw (a := 18) (b := 12) (lo := 32) (hi := 32 + r + 1) (by decide), apsw (a := 18) (b := 16) (lo := 32) (hi := 32 + r + 1) (by decide), apsw (a := 18) (b := 17) (lo := 32) (hi := 32 + r + 1) (by decide), apst (a := 18) (lo := 32) (by omega), apsw (a := 19) (b := 12) (lo := 32) (hi := 32 + r + 1) (by decide), apsw (a := 19) (b := 16) (lo := 32) (hi := 32 + r + 1) (by decide), apsw (a := 19) (b := 17) (lo := 32) (hi := 32 + r + 1) (by decide), apsw (a := 19) (b := 18) (lo := 32) (hi := 32 + r + 1) (by decide), apst (a := 19) (lo := 32) (by omega)]
theorem lp_fo2 {G : GE} {x : Nat} {h : GT} {ws : List WT} {Q : RT → GT → Prop} (hs : sh T12 h x) (hq : ex_W G 2 0 0 M_X12_forgetRounds 107 [(0, .ref x), (1, .int (nI 2)), (2, .int (nI 16))] [] (ap x ((2, 12, 32, 48, ((-1))) :: (2, 16, 32, 48, (nI 0)) :: (2, 17, 32, 48, ((-1))) :: (2, 18, 32, 48, (nI 0)) :: (2, 19, 32, 48, (nI 0)) :: ws) h) Q) : ex_W G 2 0 0 M_X12_forgetRounds 35 [(0, .ref x), (1, .int (nI 2)), (2, .int (nI 0))] [] (ap x ws h) Q := by
  have lp : ∀ n r : Nat, r + n = 16 → ex_W G 2 0 0 M_X12_forgetRounds 35 [(0, .ref x), (1, .int (nI 2)), (2, .int (nI r))] [] (ap x ((2, 12, 32, 32 + r, ((-1))) :: (2, 16, 32, 32 + r, (nI 0)) :: (2, 17, 32, 32 + r, ((-1))) :: (2, 18, 32, 32 + r, (nI 0)) :: (2, 19, 32, 32 + r, (nI 0)) :: ws) h) Q := by
    intro n
    induction n with
    | zero =>
      intro r hr
      obtain rfl : r = 16 := by omega
      refine ex_iload_n ok_X12_forgetRounds (mi 25 rfl) rfl ?_
      refine ex_bipush ok_X12_forgetRounds (mi 26 rfl) ?_
      refine ex_icmp_ge (tgt := 107) ok_X12_forgetRounds (mi 27 rfl) rfl (fun _ => ?_) (fun hn => absurd (by decide) hn)
      exact hq
    | succ n ih =>
      intro r hrn
      have hr : r < 16 := by omega
      refine ex_iload_n ok_X12_forgetRounds (mi 25 rfl) rfl ?_
      refine ex_bipush ok_X12_forgetRounds (mi 26 rfl) ?_
      refine ex_icmp_ge (tgt := 107) ok_X12_forgetRounds (mi 27 rfl) rfl (fun h38 => False.elim (absurd h38 (nI_ge hr (by decide)))) (fun h38 => ?_)
      refine ex_aload_n ok_X12_forgetRounds (mi 28 rfl) rfl ?_
      refine ex_getRx ok_X12_forgetRounds (mi 29 rfl) rfl rfl (kq apq (fk hs 0 rfl)) (rq apq (fr hs 11 rfl)) (kq apq (fk hs 12 rfl)) (by decide) ?_
      refine ex_bipush ok_X12_forgetRounds (mi 30 rfl) ?_
      refine ex_iload_n ok_X12_forgetRounds (mi 31 rfl) rfl ?_
      refine ex_imul ok_X12_forgetRounds (mi 32 rfl) ?_
      refine ex_top (w := (nI 32)) (by decide) ?_
      refine ex_iload_n ok_X12_forgetRounds (mi 33 rfl) rfl ?_
      refine ex_iadd ok_X12_forgetRounds (mi 34 rfl) ?_
      refine ex_top (w := (nI (32 + r))) (nI_add 32 r) ?_
      refine ex_iconst ok_X12_forgetRounds (mi 35 rfl) ?_
      refine ex_iasta (a := 12) (j := 32 + r) (v := (-1)) ok_X12_forgetRounds (mi 36 rfl) (fk hs 12 rfl) (fn hs 12 rfl) (vp_in_nI (by omega) (by decide)) (nI_clamp (by omega)) (by decide) ?_
      refine ex_aload_n ok_X12_forgetRounds (mi 37 rfl) rfl ?_
      refine ex_getRx ok_X12_forgetRounds (mi 38 rfl) rfl rfl (kq apq (fk hs 0 rfl)) (rq apq (fr hs 15 rfl)) (kq apq (fk hs 16 rfl)) (by decide) ?_
      refine ex_bipush ok_X12_forgetRounds (mi 39 rfl) ?_
      refine ex_iload_n ok_X12_forgetRounds (mi 40 rfl) rfl ?_
      refine ex_imul ok_X12_forgetRounds (mi 41 rfl) ?_
      refine ex_top (w := (nI 32)) (by decide) ?_
      refine ex_iload_n ok_X12_forgetRounds (mi 42 rfl) rfl ?_
      refine ex_iadd ok_X12_forgetRounds (mi 43 rfl) ?_
      refine ex_top (w := (nI (32 + r))) (nI_add 32 r) ?_
      refine ex_iconst ok_X12_forgetRounds (mi 44 rfl) ?_
      refine ex_iasta (a := 16) (j := 32 + r) (v := (nI 0)) ok_X12_forgetRounds (mi 45 rfl) (fk hs 16 rfl) (fn hs 16 rfl) (vp_in_nI (by omega) (by decide)) (nI_clamp (by omega)) (by decide) ?_
      refine ex_aload_n ok_X12_forgetRounds (mi 46 rfl) rfl ?_
      refine ex_getRx ok_X12_forgetRounds (mi 47 rfl) rfl rfl (kq apq (fk hs 0 rfl)) (rq apq (fr hs 16 rfl)) (kq apq (fk hs 17 rfl)) (by decide) ?_
      refine ex_bipush ok_X12_forgetRounds (mi 48 rfl) ?_
      refine ex_iload_n ok_X12_forgetRounds (mi 49 rfl) rfl ?_
      refine ex_imul ok_X12_forgetRounds (mi 50 rfl) ?_
      refine ex_top (w := (nI 32)) (by decide) ?_
      refine ex_iload_n ok_X12_forgetRounds (mi 51 rfl) rfl ?_
      refine ex_iadd ok_X12_forgetRounds (mi 52 rfl) ?_
      refine ex_top (w := (nI (32 + r))) (nI_add 32 r) ?_
      refine ex_iconst ok_X12_forgetRounds (mi 53 rfl) ?_
      refine ex_iasta (a := 17) (j := 32 + r) (v := (-1)) ok_X12_forgetRounds (mi 54 rfl) (fk hs 17 rfl) (fn hs 17 rfl) (vp_in_nI (by omega) (by decide)) (nI_clamp (by omega)) (by decide) ?_
      refine ex_aload_n ok_X12_forgetRounds (mi 55 rfl) rfl ?_
      refine ex_getRx ok_X12_forgetRounds (mi 56 rfl) rfl rfl (kq apq (fk hs 0 rfl)) (rq apq (fr hs 17 rfl)) (kq apq (fk hs 18 rfl)) (by decide) ?_
      refine ex_bipush ok_X12_forgetRounds (mi 57 rfl) ?_
      refine ex_iload_n ok_X12_forgetRounds (mi 58 rfl) rfl ?_
      refine ex_imul ok_X12_forgetRounds (mi 59 rfl) ?_
      refine ex_top (w := (nI 32)) (by decide) ?_
      refine ex_iload_n ok_X12_forgetRounds (mi 60 rfl) rfl ?_
      refine ex_iadd ok_X12_forgetRounds (mi 61 rfl) ?_
      refine ex_top (w := (nI (32 + r))) (nI_add 32 r) ?_
      refine ex_iconst ok_X12_forgetRounds (mi 62 rfl) ?_
      refine ex_iasta (a := 18) (j := 32 + r) (v := (nI 0)) ok_X12_forgetRounds (mi 63 rfl) (fk hs 18 rfl) (fn hs 18 rfl) (vp_in_nI (by omega) (by decide)) (nI_clamp (by omega)) (by decide) ?_
      refine ex_aload_n ok_X12_forgetRounds (mi 64 rfl) rfl ?_
      refine ex_getRx ok_X12_forgetRounds (mi 65 rfl) rfl rfl (kq apq (fk hs 0 rfl)) (rq apq (fr hs 18 rfl)) (kq apq (fk hs 19 rfl)) (by decide) ?_
      refine ex_bipush ok_X12_forgetRounds (mi 66 rfl) ?_
      refine ex_iload_n ok_X12_forgetRounds (mi 67 rfl) rfl ?_
      refine ex_imul ok_X12_forgetRounds (mi 68 rfl) ?_
      refine ex_top (w := (nI 32)) (by decide) ?_
      refine ex_iload_n ok_X12_forgetRounds (mi 69 rfl) rfl ?_
      refine ex_iadd ok_X12_forgetRounds (mi 70 rfl) ?_
      refine ex_top (w := (nI (32 + r))) (nI_add 32 r) ?_
      refine ex_iconst ok_X12_forgetRounds (mi 71 rfl) ?_
      refine ex_iasta (a := 19) (j := 32 + r) (v := (nI 0)) ok_X12_forgetRounds (mi 72 rfl) (fk hs 19 rfl) (fn hs 19 rfl) (vp_in_nI (by omega) (by decide)) (nI_clamp (by omega)) (by decide) ?_
      refine ex_iinc ok_X12_forgetRounds (mi 73 rfl) rfl ?_
      refine ex_goto (tgt := 35) ok_X12_forgetRounds (mi 74 rfl) rfl ?_
      rw [eq_fo2]
      exact ex_ls (ls' := [(0, .ref x), (1, .int (nI 2)), (2, .int (nI (r + 1)))]) ⟨rfl, rfl, by rw [nI_succ]; rfl, trivial⟩ (ih (r + 1) (by omega))
  have k := lp 16 0 rfl
  simp only [ap_c, Nat.add_zero, ap0] at k
  exact k
def W_X12_forgetRounds0 : List WT := [(1, 25, 0, 0, (nI 0)), (1, 24, 0, 0, (nI 0)), (1, 23, 0, 0, (nI 0)), (1, 22, 0, 0, (nI 0)), (1, 21, 0, 0, (nI 0)), (1, 20, 0, 0, (nI 0)), (2, 12, 0, 16, ((-1))), (2, 16, 0, 16, (nI 0)), (2, 17, 0, 16, ((-1))), (2, 18, 0, 16, (nI 0)), (2, 19, 0, 16, (nI 0)), (1, 15, 0, 0, (nI 0)), (1, 14, 0, 0, (nI 0)), (1, 11, 0, 0, (nI 0)), (1, 10, 0, 0, (nI 0)), (2, 9, 0, 300, (nI 0)), (1, 8, 0, 0, (nI 0)), (1, 7, 0, 0, (nI 0))]
theorem m_X12_forgetRounds0 {G : GE} (hst : (ge_l G).stackTraces = false) {x : Nat} {ws : List WT} {h : GT} (hs : sh T12 h x) : ex_M G 2 0 0 my_X12_forgetRounds [.ref x, .int (nI 0)] (ap x ws h) (rv none (ap x (W_X12_forgetRounds0 ++ ws) h)) := by
  refine ex_M_of ok_X12_forgetRounds cw_X12_forgetRounds rfl hst (Nat.le_of_ble_eq_true rfl) ?_
  refine ex_aload_n ok_X12_forgetRounds (mi 0 rfl) rfl ?_
  refine ex_iload_n ok_X12_forgetRounds (mi 1 rfl) rfl ?_
  refine ex_callVr (As := [_]) (v := none) (g1 := (ap x ((2, 9, 0, 300, (nI 0)) :: (1, 8, 0, 0, (nI 0)) :: (1, 7, 0, 0, (nI 0)) :: ws) h)) ok_X12_forgetRounds (mi 2 rfl) rfl ?c rfl (kq apq (fk hs 0 rfl)) rfl rfl (by decide) (by decide) (Nat.le_of_ble_eq_true rfl) (by decide) ?_
  case c =>
    refine ex_M_of ok_X12_forgetMatching cw_X12_forgetMatching rfl hst (Nat.le_of_ble_eq_true rfl) ?_
    refine ex_aload_n ok_X12_forgetMatching (mi 0 rfl) rfl ?_
    refine ex_getRx ok_X12_forgetMatching (mi 1 rfl) rfl rfl (kq apq (fk hs 0 rfl)) (rq apq (fr hs 6 rfl)) (kq apq (fk hs 7 rfl)) (by decide) ?_
    refine ex_iload_n ok_X12_forgetMatching (mi 2 rfl) rfl ?_
    refine ex_iconst ok_X12_forgetMatching (mi 3 rfl) ?_
    refine ex_iasta (a := 7) (j := 0) (v := (nI 0)) ok_X12_forgetMatching (mi 4 rfl) (fk hs 7 rfl) (fn hs 7 rfl) (pk_in 0 3 (by decide)) (by decide) (by decide) ?_
    refine ex_aload_n ok_X12_forgetMatching (mi 5 rfl) rfl ?_
    refine ex_getRx ok_X12_forgetMatching (mi 6 rfl) rfl rfl (kq apq (fk hs 0 rfl)) (rq apq (fr hs 7 rfl)) (kq apq (fk hs 8 rfl)) (by decide) ?_
    refine ex_iload_n ok_X12_forgetMatching (mi 7 rfl) rfl ?_
    refine ex_iconst ok_X12_forgetMatching (mi 8 rfl) ?_
    refine ex_iasta (a := 8) (j := 0) (v := (nI 0)) ok_X12_forgetMatching (mi 9 rfl) (fk hs 8 rfl) (fn hs 8 rfl) (pk_in 0 3 (by decide)) (by decide) (by decide) ?_
    refine ex_iconst ok_X12_forgetMatching (mi 10 rfl) ?_
    refine ex_istore_n ok_X12_forgetMatching (mi 11 rfl) ?_
    refine ex_ls (ls' := [(0, .ref x), (1, .int (nI 0)), (2, .int (nI 0))]) ⟨rfl, rfl, rfl, trivial⟩ ?_
    refine lp_fm0 hs ?_
    refine ex_vret ok_X12_forgetMatching (mi 26 rfl) rfl ?_
    exact ⟨rfl, rfl⟩
  refine ex_aload_n ok_X12_forgetRounds (mi 3 rfl) rfl ?_
  refine ex_getRx ok_X12_forgetRounds (mi 4 rfl) rfl rfl (kq apq (fk hs 0 rfl)) (rq apq (fr hs 9 rfl)) (kq apq (fk hs 10 rfl)) (by decide) ?_
  refine ex_iload_n ok_X12_forgetRounds (mi 5 rfl) rfl ?_
  refine ex_iconst ok_X12_forgetRounds (mi 6 rfl) ?_
  refine ex_iasta (a := 10) (j := 0) (v := (nI 0)) ok_X12_forgetRounds (mi 7 rfl) (fk hs 10 rfl) (fn hs 10 rfl) (pk_in 0 3 (by decide)) (by decide) (by decide) ?_
  refine ex_aload_n ok_X12_forgetRounds (mi 8 rfl) rfl ?_
  refine ex_getRx ok_X12_forgetRounds (mi 9 rfl) rfl rfl (kq apq (fk hs 0 rfl)) (rq apq (fr hs 10 rfl)) (kq apq (fk hs 11 rfl)) (by decide) ?_
  refine ex_iload_n ok_X12_forgetRounds (mi 10 rfl) rfl ?_
  refine ex_iconst ok_X12_forgetRounds (mi 11 rfl) ?_
  refine ex_iasta (a := 11) (j := 0) (v := (nI 0)) ok_X12_forgetRounds (mi 12 rfl) (fk hs 11 rfl) (fn hs 11 rfl) (pk_in 0 3 (by decide)) (by decide) (by decide) ?_
  refine ex_aload_n ok_X12_forgetRounds (mi 13 rfl) rfl ?_
  refine ex_getRx ok_X12_forgetRounds (mi 14 rfl) rfl rfl (kq apq (fk hs 0 rfl)) (rq apq (fr hs 13 rfl)) (kq apq (fk hs 14 rfl)) (by decide) ?_
  refine ex_iload_n ok_X12_forgetRounds (mi 15 rfl) rfl ?_
  refine ex_iconst ok_X12_forgetRounds (mi 16 rfl) ?_
  refine ex_iasta (a := 14) (j := 0) (v := (nI 0)) ok_X12_forgetRounds (mi 17 rfl) (fk hs 14 rfl) (fn hs 14 rfl) (pk_in 0 3 (by decide)) (by decide) (by decide) ?_
  refine ex_aload_n ok_X12_forgetRounds (mi 18 rfl) rfl ?_
  refine ex_getRx ok_X12_forgetRounds (mi 19 rfl) rfl rfl (kq apq (fk hs 0 rfl)) (rq apq (fr hs 14 rfl)) (kq apq (fk hs 15 rfl)) (by decide) ?_
  refine ex_iload_n ok_X12_forgetRounds (mi 20 rfl) rfl ?_
  refine ex_iconst ok_X12_forgetRounds (mi 21 rfl) ?_
  refine ex_iasta (a := 15) (j := 0) (v := (nI 0)) ok_X12_forgetRounds (mi 22 rfl) (fk hs 15 rfl) (fn hs 15 rfl) (pk_in 0 3 (by decide)) (by decide) (by decide) ?_
  refine ex_iconst ok_X12_forgetRounds (mi 23 rfl) ?_
  refine ex_istore_n ok_X12_forgetRounds (mi 24 rfl) ?_
  refine ex_ls (ls' := [(0, .ref x), (1, .int (nI 0)), (2, .int (nI 0))]) ⟨rfl, rfl, rfl, trivial⟩ ?_
  refine lp_fo0 hs ?_
  refine ex_aload_n ok_X12_forgetRounds (mi 75 rfl) rfl ?_
  refine ex_getRx ok_X12_forgetRounds (mi 76 rfl) rfl rfl (kq apq (fk hs 0 rfl)) (rq apq (fr hs 19 rfl)) (kq apq (fk hs 20 rfl)) (by decide) ?_
  refine ex_iload_n ok_X12_forgetRounds (mi 77 rfl) rfl ?_
  refine ex_iconst ok_X12_forgetRounds (mi 78 rfl) ?_
  refine ex_iasta (a := 20) (j := 0) (v := (nI 0)) ok_X12_forgetRounds (mi 79 rfl) (fk hs 20 rfl) (fn hs 20 rfl) (pk_in 0 3 (by decide)) (by decide) (by decide) ?_
  refine ex_aload_n ok_X12_forgetRounds (mi 80 rfl) rfl ?_
  refine ex_iload_n ok_X12_forgetRounds (mi 81 rfl) rfl ?_
  refine ex_callVr (As := [_]) (v := none) (g1 := (ap x ((1, 25, 0, 0, (nI 0)) :: (1, 24, 0, 0, (nI 0)) :: (1, 23, 0, 0, (nI 0)) :: (1, 22, 0, 0, (nI 0)) :: (1, 21, 0, 0, (nI 0)) :: (1, 20, 0, 0, (nI 0)) :: (2, 12, 0, 16, ((-1))) :: (2, 16, 0, 16, (nI 0)) :: (2, 17, 0, 16, ((-1))) :: (2, 18, 0, 16, (nI 0)) :: (2, 19, 0, 16, (nI 0)) :: (1, 15, 0, 0, (nI 0)) :: (1, 14, 0, 0, (nI 0)) :: (1, 11, 0, 0, (nI 0)) :: (1, 10, 0, 0, (nI 0)) :: (2, 9, 0, 300, (nI 0)) :: (1, 8, 0, 0, (nI 0)) :: (1, 7, 0, 0, (nI 0)) :: ws) h)) ok_X12_forgetRounds (mi 82 rfl) rfl ?c rfl (kq apq (fk hs 0 rfl)) rfl rfl (by decide) (by decide) (Nat.le_of_ble_eq_true rfl) (by decide) ?_
  case c =>
    refine ex_M_of ok_X12_forgetCollecting cw_X12_forgetCollecting rfl hst (Nat.le_of_ble_eq_true rfl) ?_
    refine ex_aload_n ok_X12_forgetCollecting (mi 0 rfl) rfl ?_
    refine ex_getRx ok_X12_forgetCollecting (mi 1 rfl) rfl rfl (kq apq (fk hs 0 rfl)) (rq apq (fr hs 20 rfl)) (kq apq (fk hs 21 rfl)) (by decide) ?_
    refine ex_iload_n ok_X12_forgetCollecting (mi 2 rfl) rfl ?_
    refine ex_iconst ok_X12_forgetCollecting (mi 3 rfl) ?_
    refine ex_iasta (a := 21) (j := 0) (v := (nI 0)) ok_X12_forgetCollecting (mi 4 rfl) (fk hs 21 rfl) (fn hs 21 rfl) (pk_in 0 3 (by decide)) (by decide) (by decide) ?_
    refine ex_aload_n ok_X12_forgetCollecting (mi 5 rfl) rfl ?_
    refine ex_getRx ok_X12_forgetCollecting (mi 6 rfl) rfl rfl (kq apq (fk hs 0 rfl)) (rq apq (fr hs 21 rfl)) (kq apq (fk hs 22 rfl)) (by decide) ?_
    refine ex_iload_n ok_X12_forgetCollecting (mi 7 rfl) rfl ?_
    refine ex_iconst ok_X12_forgetCollecting (mi 8 rfl) ?_
    refine ex_iasta (a := 22) (j := 0) (v := (nI 0)) ok_X12_forgetCollecting (mi 9 rfl) (fk hs 22 rfl) (fn hs 22 rfl) (pk_in 0 3 (by decide)) (by decide) (by decide) ?_
    refine ex_aload_n ok_X12_forgetCollecting (mi 10 rfl) rfl ?_
    refine ex_getRx ok_X12_forgetCollecting (mi 11 rfl) rfl rfl (kq apq (fk hs 0 rfl)) (rq apq (fr hs 22 rfl)) (kq apq (fk hs 23 rfl)) (by decide) ?_
    refine ex_iload_n ok_X12_forgetCollecting (mi 12 rfl) rfl ?_
    refine ex_iconst ok_X12_forgetCollecting (mi 13 rfl) ?_
    refine ex_iasta (a := 23) (j := 0) (v := (nI 0)) ok_X12_forgetCollecting (mi 14 rfl) (fk hs 23 rfl) (fn hs 23 rfl) (pk_in 0 3 (by decide)) (by decide) (by decide) ?_
    refine ex_aload_n ok_X12_forgetCollecting (mi 15 rfl) rfl ?_
    refine ex_getRx ok_X12_forgetCollecting (mi 16 rfl) rfl rfl (kq apq (fk hs 0 rfl)) (rq apq (fr hs 23 rfl)) (kq apq (fk hs 24 rfl)) (by decide) ?_
    refine ex_iload_n ok_X12_forgetCollecting (mi 17 rfl) rfl ?_
    refine ex_iconst ok_X12_forgetCollecting (mi 18 rfl) ?_
    refine ex_iasta (a := 24) (j := 0) (v := (nI 0)) ok_X12_forgetCollecting (mi 19 rfl) (fk hs 24 rfl) (fn hs 24 rfl) (pk_in 0 3 (by decide)) (by decide) (by decide) ?_
    refine ex_aload_n ok_X12_forgetCollecting (mi 20 rfl) rfl ?_
    refine ex_getRx ok_X12_forgetCollecting (mi 21 rfl) rfl rfl (kq apq (fk hs 0 rfl)) (rq apq (fr hs 24 rfl)) (kq apq (fk hs 25 rfl)) (by decide) ?_
    refine ex_iload_n ok_X12_forgetCollecting (mi 22 rfl) rfl ?_
    refine ex_iconst ok_X12_forgetCollecting (mi 23 rfl) ?_
    refine ex_iasta (a := 25) (j := 0) (v := (nI 0)) ok_X12_forgetCollecting (mi 24 rfl) (fk hs 25 rfl) (fn hs 25 rfl) (pk_in 0 3 (by decide)) (by decide) (by decide) ?_
    refine ex_vret ok_X12_forgetCollecting (mi 25 rfl) rfl ?_
    exact ⟨rfl, rfl⟩
  refine ex_vret ok_X12_forgetRounds (mi 83 rfl) rfl ?_
  exact ⟨rfl, rfl⟩
def W_X12_forgetReform0 : List WT := [(2, 31, 0, 300, (nI 0)), (1, 33, 0, 0, (nI 0)), (1, 32, 0, 0, (-1)), (1, 30, 0, 0, (nI 0)), (1, 29, 0, 0, (nI 0))]
theorem m_X12_forgetReform0 {G : GE} (hst : (ge_l G).stackTraces = false) {x : Nat} {ws : List WT} {h : GT} (hs : sh T12 h x) : ex_M G 1 0 0 my_X12_forgetReform [.ref x, .int (nI 0)] (ap x ws h) (rv none (ap x (W_X12_forgetReform0 ++ ws) h)) := by
  refine ex_M_of ok_X12_forgetReform cw_X12_forgetReform rfl hst (Nat.le_of_ble_eq_true rfl) ?_
  refine ex_aload_n ok_X12_forgetReform (mi 0 rfl) rfl ?_
  refine ex_getRx ok_X12_forgetReform (mi 1 rfl) rfl rfl (kq apq (fk hs 0 rfl)) (rq apq (fr hs 28 rfl)) (kq apq (fk hs 29 rfl)) (by decide) ?_
  refine ex_iload_n ok_X12_forgetReform (mi 2 rfl) rfl ?_
  refine ex_iconst ok_X12_forgetReform (mi 3 rfl) ?_
  refine ex_iasta (a := 29) (j := 0) (v := (nI 0)) ok_X12_forgetReform (mi 4 rfl) (fk hs 29 rfl) (fn hs 29 rfl) (pk_in 0 3 (by decide)) (by decide) (by decide) ?_
  refine ex_aload_n ok_X12_forgetReform (mi 5 rfl) rfl ?_
  refine ex_getRx ok_X12_forgetReform (mi 6 rfl) rfl rfl (kq apq (fk hs 0 rfl)) (rq apq (fr hs 29 rfl)) (kq apq (fk hs 30 rfl)) (by decide) ?_
  refine ex_iload_n ok_X12_forgetReform (mi 7 rfl) rfl ?_
  refine ex_iconst ok_X12_forgetReform (mi 8 rfl) ?_
  refine ex_iasta (a := 30) (j := 0) (v := (nI 0)) ok_X12_forgetReform (mi 9 rfl) (fk hs 30 rfl) (fn hs 30 rfl) (pk_in 0 3 (by decide)) (by decide) (by decide) ?_
  refine ex_aload_n ok_X12_forgetReform (mi 10 rfl) rfl ?_
  refine ex_getRx ok_X12_forgetReform (mi 11 rfl) rfl rfl (kq apq (fk hs 0 rfl)) (rq apq (fr hs 31 rfl)) (kq apq (fk hs 32 rfl)) (by decide) ?_
  refine ex_iload_n ok_X12_forgetReform (mi 12 rfl) rfl ?_
  refine ex_iconst ok_X12_forgetReform (mi 13 rfl) ?_
  refine ex_iasta (a := 32) (j := 0) (v := (-1)) ok_X12_forgetReform (mi 14 rfl) (fk hs 32 rfl) (fn hs 32 rfl) (pk_in 0 3 (by decide)) (by decide) (by decide) ?_
  refine ex_aload_n ok_X12_forgetReform (mi 15 rfl) rfl ?_
  refine ex_getRx ok_X12_forgetReform (mi 16 rfl) rfl rfl (kq apq (fk hs 0 rfl)) (rq apq (fr hs 32 rfl)) (kq apq (fk hs 33 rfl)) (by decide) ?_
  refine ex_iload_n ok_X12_forgetReform (mi 17 rfl) rfl ?_
  refine ex_iconst ok_X12_forgetReform (mi 18 rfl) ?_
  refine ex_iasta (a := 33) (j := 0) (v := (nI 0)) ok_X12_forgetReform (mi 19 rfl) (fk hs 33 rfl) (fn hs 33 rfl) (pk_in 0 3 (by decide)) (by decide) (by decide) ?_
  refine ex_iconst ok_X12_forgetReform (mi 20 rfl) ?_
  refine ex_istore_n ok_X12_forgetReform (mi 21 rfl) ?_
  refine ex_ls (ls' := [(0, .ref x), (1, .int (nI 0)), (2, .int (nI 0))]) ⟨rfl, rfl, rfl, trivial⟩ ?_
  refine lp_fr0 hs ?_
  refine ex_vret ok_X12_forgetReform (mi 36 rfl) rfl ?_
  exact ⟨rfl, rfl⟩
def W_X12_forgetRounds1 : List WT := [(1, 25, 1, 0, (nI 0)), (1, 24, 1, 0, (nI 0)), (1, 23, 1, 0, (nI 0)), (1, 22, 1, 0, (nI 0)), (1, 21, 1, 0, (nI 0)), (1, 20, 1, 0, (nI 0)), (2, 12, 16, 32, ((-1))), (2, 16, 16, 32, (nI 0)), (2, 17, 16, 32, ((-1))), (2, 18, 16, 32, (nI 0)), (2, 19, 16, 32, (nI 0)), (1, 15, 1, 0, (nI 0)), (1, 14, 1, 0, (nI 0)), (1, 11, 1, 0, (nI 0)), (1, 10, 1, 0, (nI 0)), (2, 9, 300, 600, (nI 0)), (1, 8, 1, 0, (nI 0)), (1, 7, 1, 0, (nI 0))]
theorem m_X12_forgetRounds1 {G : GE} (hst : (ge_l G).stackTraces = false) {x : Nat} {ws : List WT} {h : GT} (hs : sh T12 h x) : ex_M G 2 0 0 my_X12_forgetRounds [.ref x, .int (nI 1)] (ap x ws h) (rv none (ap x (W_X12_forgetRounds1 ++ ws) h)) := by
  refine ex_M_of ok_X12_forgetRounds cw_X12_forgetRounds rfl hst (Nat.le_of_ble_eq_true rfl) ?_
  refine ex_aload_n ok_X12_forgetRounds (mi 0 rfl) rfl ?_
  refine ex_iload_n ok_X12_forgetRounds (mi 1 rfl) rfl ?_
  refine ex_callVr (As := [_]) (v := none) (g1 := (ap x ((2, 9, 300, 600, (nI 0)) :: (1, 8, 1, 0, (nI 0)) :: (1, 7, 1, 0, (nI 0)) :: ws) h)) ok_X12_forgetRounds (mi 2 rfl) rfl ?c rfl (kq apq (fk hs 0 rfl)) rfl rfl (by decide) (by decide) (Nat.le_of_ble_eq_true rfl) (by decide) ?_
  case c =>
    refine ex_M_of ok_X12_forgetMatching cw_X12_forgetMatching rfl hst (Nat.le_of_ble_eq_true rfl) ?_
    refine ex_aload_n ok_X12_forgetMatching (mi 0 rfl) rfl ?_
    refine ex_getRx ok_X12_forgetMatching (mi 1 rfl) rfl rfl (kq apq (fk hs 0 rfl)) (rq apq (fr hs 6 rfl)) (kq apq (fk hs 7 rfl)) (by decide) ?_
    refine ex_iload_n ok_X12_forgetMatching (mi 2 rfl) rfl ?_
    refine ex_iconst ok_X12_forgetMatching (mi 3 rfl) ?_
    refine ex_iasta (a := 7) (j := 1) (v := (nI 0)) ok_X12_forgetMatching (mi 4 rfl) (fk hs 7 rfl) (fn hs 7 rfl) (pk_in 1 3 (by decide)) (by decide) (by decide) ?_
    refine ex_aload_n ok_X12_forgetMatching (mi 5 rfl) rfl ?_
    refine ex_getRx ok_X12_forgetMatching (mi 6 rfl) rfl rfl (kq apq (fk hs 0 rfl)) (rq apq (fr hs 7 rfl)) (kq apq (fk hs 8 rfl)) (by decide) ?_
    refine ex_iload_n ok_X12_forgetMatching (mi 7 rfl) rfl ?_
    refine ex_iconst ok_X12_forgetMatching (mi 8 rfl) ?_
    refine ex_iasta (a := 8) (j := 1) (v := (nI 0)) ok_X12_forgetMatching (mi 9 rfl) (fk hs 8 rfl) (fn hs 8 rfl) (pk_in 1 3 (by decide)) (by decide) (by decide) ?_
    refine ex_iconst ok_X12_forgetMatching (mi 10 rfl) ?_
    refine ex_istore_n ok_X12_forgetMatching (mi 11 rfl) ?_
    refine ex_ls (ls' := [(0, .ref x), (1, .int (nI 1)), (2, .int (nI 0))]) ⟨rfl, rfl, rfl, trivial⟩ ?_
    refine lp_fm1 hs ?_
    refine ex_vret ok_X12_forgetMatching (mi 26 rfl) rfl ?_
    exact ⟨rfl, rfl⟩
  refine ex_aload_n ok_X12_forgetRounds (mi 3 rfl) rfl ?_
  refine ex_getRx ok_X12_forgetRounds (mi 4 rfl) rfl rfl (kq apq (fk hs 0 rfl)) (rq apq (fr hs 9 rfl)) (kq apq (fk hs 10 rfl)) (by decide) ?_
  refine ex_iload_n ok_X12_forgetRounds (mi 5 rfl) rfl ?_
  refine ex_iconst ok_X12_forgetRounds (mi 6 rfl) ?_
  refine ex_iasta (a := 10) (j := 1) (v := (nI 0)) ok_X12_forgetRounds (mi 7 rfl) (fk hs 10 rfl) (fn hs 10 rfl) (pk_in 1 3 (by decide)) (by decide) (by decide) ?_
  refine ex_aload_n ok_X12_forgetRounds (mi 8 rfl) rfl ?_
  refine ex_getRx ok_X12_forgetRounds (mi 9 rfl) rfl rfl (kq apq (fk hs 0 rfl)) (rq apq (fr hs 10 rfl)) (kq apq (fk hs 11 rfl)) (by decide) ?_
  refine ex_iload_n ok_X12_forgetRounds (mi 10 rfl) rfl ?_
  refine ex_iconst ok_X12_forgetRounds (mi 11 rfl) ?_
  refine ex_iasta (a := 11) (j := 1) (v := (nI 0)) ok_X12_forgetRounds (mi 12 rfl) (fk hs 11 rfl) (fn hs 11 rfl) (pk_in 1 3 (by decide)) (by decide) (by decide) ?_
  refine ex_aload_n ok_X12_forgetRounds (mi 13 rfl) rfl ?_
  refine ex_getRx ok_X12_forgetRounds (mi 14 rfl) rfl rfl (kq apq (fk hs 0 rfl)) (rq apq (fr hs 13 rfl)) (kq apq (fk hs 14 rfl)) (by decide) ?_
  refine ex_iload_n ok_X12_forgetRounds (mi 15 rfl) rfl ?_
  refine ex_iconst ok_X12_forgetRounds (mi 16 rfl) ?_
  refine ex_iasta (a := 14) (j := 1) (v := (nI 0)) ok_X12_forgetRounds (mi 17 rfl) (fk hs 14 rfl) (fn hs 14 rfl) (pk_in 1 3 (by decide)) (by decide) (by decide) ?_
  refine ex_aload_n ok_X12_forgetRounds (mi 18 rfl) rfl ?_
  refine ex_getRx ok_X12_forgetRounds (mi 19 rfl) rfl rfl (kq apq (fk hs 0 rfl)) (rq apq (fr hs 14 rfl)) (kq apq (fk hs 15 rfl)) (by decide) ?_
  refine ex_iload_n ok_X12_forgetRounds (mi 20 rfl) rfl ?_
  refine ex_iconst ok_X12_forgetRounds (mi 21 rfl) ?_
  refine ex_iasta (a := 15) (j := 1) (v := (nI 0)) ok_X12_forgetRounds (mi 22 rfl) (fk hs 15 rfl) (fn hs 15 rfl) (pk_in 1 3 (by decide)) (by decide) (by decide) ?_
  refine ex_iconst ok_X12_forgetRounds (mi 23 rfl) ?_
  refine ex_istore_n ok_X12_forgetRounds (mi 24 rfl) ?_
  refine ex_ls (ls' := [(0, .ref x), (1, .int (nI 1)), (2, .int (nI 0))]) ⟨rfl, rfl, rfl, trivial⟩ ?_
  refine lp_fo1 hs ?_
  refine ex_aload_n ok_X12_forgetRounds (mi 75 rfl) rfl ?_
  refine ex_getRx ok_X12_forgetRounds (mi 76 rfl) rfl rfl (kq apq (fk hs 0 rfl)) (rq apq (fr hs 19 rfl)) (kq apq (fk hs 20 rfl)) (by decide) ?_
  refine ex_iload_n ok_X12_forgetRounds (mi 77 rfl) rfl ?_
  refine ex_iconst ok_X12_forgetRounds (mi 78 rfl) ?_
  refine ex_iasta (a := 20) (j := 1) (v := (nI 0)) ok_X12_forgetRounds (mi 79 rfl) (fk hs 20 rfl) (fn hs 20 rfl) (pk_in 1 3 (by decide)) (by decide) (by decide) ?_
  refine ex_aload_n ok_X12_forgetRounds (mi 80 rfl) rfl ?_
  refine ex_iload_n ok_X12_forgetRounds (mi 81 rfl) rfl ?_
  refine ex_callVr (As := [_]) (v := none) (g1 := (ap x ((1, 25, 1, 0, (nI 0)) :: (1, 24, 1, 0, (nI 0)) :: (1, 23, 1, 0, (nI 0)) :: (1, 22, 1, 0, (nI 0)) :: (1, 21, 1, 0, (nI 0)) :: (1, 20, 1, 0, (nI 0)) :: (2, 12, 16, 32, ((-1))) :: (2, 16, 16, 32, (nI 0)) :: (2, 17, 16, 32, ((-1))) :: (2, 18, 16, 32, (nI 0)) :: (2, 19, 16, 32, (nI 0)) :: (1, 15, 1, 0, (nI 0)) :: (1, 14, 1, 0, (nI 0)) :: (1, 11, 1, 0, (nI 0)) :: (1, 10, 1, 0, (nI 0)) :: (2, 9, 300, 600, (nI 0)) :: (1, 8, 1, 0, (nI 0)) :: (1, 7, 1, 0, (nI 0)) :: ws) h)) ok_X12_forgetRounds (mi 82 rfl) rfl ?c rfl (kq apq (fk hs 0 rfl)) rfl rfl (by decide) (by decide) (Nat.le_of_ble_eq_true rfl) (by decide) ?_
  case c =>
    refine ex_M_of ok_X12_forgetCollecting cw_X12_forgetCollecting rfl hst (Nat.le_of_ble_eq_true rfl) ?_
    refine ex_aload_n ok_X12_forgetCollecting (mi 0 rfl) rfl ?_
    refine ex_getRx ok_X12_forgetCollecting (mi 1 rfl) rfl rfl (kq apq (fk hs 0 rfl)) (rq apq (fr hs 20 rfl)) (kq apq (fk hs 21 rfl)) (by decide) ?_
    refine ex_iload_n ok_X12_forgetCollecting (mi 2 rfl) rfl ?_
    refine ex_iconst ok_X12_forgetCollecting (mi 3 rfl) ?_
    refine ex_iasta (a := 21) (j := 1) (v := (nI 0)) ok_X12_forgetCollecting (mi 4 rfl) (fk hs 21 rfl) (fn hs 21 rfl) (pk_in 1 3 (by decide)) (by decide) (by decide) ?_
    refine ex_aload_n ok_X12_forgetCollecting (mi 5 rfl) rfl ?_
    refine ex_getRx ok_X12_forgetCollecting (mi 6 rfl) rfl rfl (kq apq (fk hs 0 rfl)) (rq apq (fr hs 21 rfl)) (kq apq (fk hs 22 rfl)) (by decide) ?_
    refine ex_iload_n ok_X12_forgetCollecting (mi 7 rfl) rfl ?_
    refine ex_iconst ok_X12_forgetCollecting (mi 8 rfl) ?_
    refine ex_iasta (a := 22) (j := 1) (v := (nI 0)) ok_X12_forgetCollecting (mi 9 rfl) (fk hs 22 rfl) (fn hs 22 rfl) (pk_in 1 3 (by decide)) (by decide) (by decide) ?_
    refine ex_aload_n ok_X12_forgetCollecting (mi 10 rfl) rfl ?_
    refine ex_getRx ok_X12_forgetCollecting (mi 11 rfl) rfl rfl (kq apq (fk hs 0 rfl)) (rq apq (fr hs 22 rfl)) (kq apq (fk hs 23 rfl)) (by decide) ?_
    refine ex_iload_n ok_X12_forgetCollecting (mi 12 rfl) rfl ?_
    refine ex_iconst ok_X12_forgetCollecting (mi 13 rfl) ?_
    refine ex_iasta (a := 23) (j := 1) (v := (nI 0)) ok_X12_forgetCollecting (mi 14 rfl) (fk hs 23 rfl) (fn hs 23 rfl) (pk_in 1 3 (by decide)) (by decide) (by decide) ?_
    refine ex_aload_n ok_X12_forgetCollecting (mi 15 rfl) rfl ?_
    refine ex_getRx ok_X12_forgetCollecting (mi 16 rfl) rfl rfl (kq apq (fk hs 0 rfl)) (rq apq (fr hs 23 rfl)) (kq apq (fk hs 24 rfl)) (by decide) ?_
    refine ex_iload_n ok_X12_forgetCollecting (mi 17 rfl) rfl ?_
    refine ex_iconst ok_X12_forgetCollecting (mi 18 rfl) ?_
    refine ex_iasta (a := 24) (j := 1) (v := (nI 0)) ok_X12_forgetCollecting (mi 19 rfl) (fk hs 24 rfl) (fn hs 24 rfl) (pk_in 1 3 (by decide)) (by decide) (by decide) ?_
    refine ex_aload_n ok_X12_forgetCollecting (mi 20 rfl) rfl ?_
    refine ex_getRx ok_X12_forgetCollecting (mi 21 rfl) rfl rfl (kq apq (fk hs 0 rfl)) (rq apq (fr hs 24 rfl)) (kq apq (fk hs 25 rfl)) (by decide) ?_
    refine ex_iload_n ok_X12_forgetCollecting (mi 22 rfl) rfl ?_
    refine ex_iconst ok_X12_forgetCollecting (mi 23 rfl) ?_
    refine ex_iasta (a := 25) (j := 1) (v := (nI 0)) ok_X12_forgetCollecting (mi 24 rfl) (fk hs 25 rfl) (fn hs 25 rfl) (pk_in 1 3 (by decide)) (by decide) (by decide) ?_
    refine ex_vret ok_X12_forgetCollecting (mi 25 rfl) rfl ?_
    exact ⟨rfl, rfl⟩
  refine ex_vret ok_X12_forgetRounds (mi 83 rfl) rfl ?_
  exact ⟨rfl, rfl⟩
def W_X12_forgetReform1 : List WT := [(2, 31, 300, 600, (nI 0)), (1, 33, 1, 0, (nI 0)), (1, 32, 1, 0, (-1)), (1, 30, 1, 0, (nI 0)), (1, 29, 1, 0, (nI 0))]
theorem m_X12_forgetReform1 {G : GE} (hst : (ge_l G).stackTraces = false) {x : Nat} {ws : List WT} {h : GT} (hs : sh T12 h x) : ex_M G 1 0 0 my_X12_forgetReform [.ref x, .int (nI 1)] (ap x ws h) (rv none (ap x (W_X12_forgetReform1 ++ ws) h)) := by
  refine ex_M_of ok_X12_forgetReform cw_X12_forgetReform rfl hst (Nat.le_of_ble_eq_true rfl) ?_
  refine ex_aload_n ok_X12_forgetReform (mi 0 rfl) rfl ?_
  refine ex_getRx ok_X12_forgetReform (mi 1 rfl) rfl rfl (kq apq (fk hs 0 rfl)) (rq apq (fr hs 28 rfl)) (kq apq (fk hs 29 rfl)) (by decide) ?_
  refine ex_iload_n ok_X12_forgetReform (mi 2 rfl) rfl ?_
  refine ex_iconst ok_X12_forgetReform (mi 3 rfl) ?_
  refine ex_iasta (a := 29) (j := 1) (v := (nI 0)) ok_X12_forgetReform (mi 4 rfl) (fk hs 29 rfl) (fn hs 29 rfl) (pk_in 1 3 (by decide)) (by decide) (by decide) ?_
  refine ex_aload_n ok_X12_forgetReform (mi 5 rfl) rfl ?_
  refine ex_getRx ok_X12_forgetReform (mi 6 rfl) rfl rfl (kq apq (fk hs 0 rfl)) (rq apq (fr hs 29 rfl)) (kq apq (fk hs 30 rfl)) (by decide) ?_
  refine ex_iload_n ok_X12_forgetReform (mi 7 rfl) rfl ?_
  refine ex_iconst ok_X12_forgetReform (mi 8 rfl) ?_
  refine ex_iasta (a := 30) (j := 1) (v := (nI 0)) ok_X12_forgetReform (mi 9 rfl) (fk hs 30 rfl) (fn hs 30 rfl) (pk_in 1 3 (by decide)) (by decide) (by decide) ?_
  refine ex_aload_n ok_X12_forgetReform (mi 10 rfl) rfl ?_
  refine ex_getRx ok_X12_forgetReform (mi 11 rfl) rfl rfl (kq apq (fk hs 0 rfl)) (rq apq (fr hs 31 rfl)) (kq apq (fk hs 32 rfl)) (by decide) ?_
  refine ex_iload_n ok_X12_forgetReform (mi 12 rfl) rfl ?_
  refine ex_iconst ok_X12_forgetReform (mi 13 rfl) ?_
  refine ex_iasta (a := 32) (j := 1) (v := (-1)) ok_X12_forgetReform (mi 14 rfl) (fk hs 32 rfl) (fn hs 32 rfl) (pk_in 1 3 (by decide)) (by decide) (by decide) ?_
  refine ex_aload_n ok_X12_forgetReform (mi 15 rfl) rfl ?_
  refine ex_getRx ok_X12_forgetReform (mi 16 rfl) rfl rfl (kq apq (fk hs 0 rfl)) (rq apq (fr hs 32 rfl)) (kq apq (fk hs 33 rfl)) (by decide) ?_
  refine ex_iload_n ok_X12_forgetReform (mi 17 rfl) rfl ?_
  refine ex_iconst ok_X12_forgetReform (mi 18 rfl) ?_
  refine ex_iasta (a := 33) (j := 1) (v := (nI 0)) ok_X12_forgetReform (mi 19 rfl) (fk hs 33 rfl) (fn hs 33 rfl) (pk_in 1 3 (by decide)) (by decide) (by decide) ?_
  refine ex_iconst ok_X12_forgetReform (mi 20 rfl) ?_
  refine ex_istore_n ok_X12_forgetReform (mi 21 rfl) ?_
  refine ex_ls (ls' := [(0, .ref x), (1, .int (nI 1)), (2, .int (nI 0))]) ⟨rfl, rfl, rfl, trivial⟩ ?_
  refine lp_fr1 hs ?_
  refine ex_vret ok_X12_forgetReform (mi 36 rfl) rfl ?_
  exact ⟨rfl, rfl⟩
def W_X12_forgetRounds2 : List WT := [(1, 25, 2, 0, (nI 0)), (1, 24, 2, 0, (nI 0)), (1, 23, 2, 0, (nI 0)), (1, 22, 2, 0, (nI 0)), (1, 21, 2, 0, (nI 0)), (1, 20, 2, 0, (nI 0)), (2, 12, 32, 48, ((-1))), (2, 16, 32, 48, (nI 0)), (2, 17, 32, 48, ((-1))), (2, 18, 32, 48, (nI 0)), (2, 19, 32, 48, (nI 0)), (1, 15, 2, 0, (nI 0)), (1, 14, 2, 0, (nI 0)), (1, 11, 2, 0, (nI 0)), (1, 10, 2, 0, (nI 0)), (2, 9, 600, 900, (nI 0)), (1, 8, 2, 0, (nI 0)), (1, 7, 2, 0, (nI 0))]
theorem m_X12_forgetRounds2 {G : GE} (hst : (ge_l G).stackTraces = false) {x : Nat} {ws : List WT} {h : GT} (hs : sh T12 h x) : ex_M G 2 0 0 my_X12_forgetRounds [.ref x, .int (nI 2)] (ap x ws h) (rv none (ap x (W_X12_forgetRounds2 ++ ws) h)) := by
  refine ex_M_of ok_X12_forgetRounds cw_X12_forgetRounds rfl hst (Nat.le_of_ble_eq_true rfl) ?_
  refine ex_aload_n ok_X12_forgetRounds (mi 0 rfl) rfl ?_
  refine ex_iload_n ok_X12_forgetRounds (mi 1 rfl) rfl ?_
  refine ex_callVr (As := [_]) (v := none) (g1 := (ap x ((2, 9, 600, 900, (nI 0)) :: (1, 8, 2, 0, (nI 0)) :: (1, 7, 2, 0, (nI 0)) :: ws) h)) ok_X12_forgetRounds (mi 2 rfl) rfl ?c rfl (kq apq (fk hs 0 rfl)) rfl rfl (by decide) (by decide) (Nat.le_of_ble_eq_true rfl) (by decide) ?_
  case c =>
    refine ex_M_of ok_X12_forgetMatching cw_X12_forgetMatching rfl hst (Nat.le_of_ble_eq_true rfl) ?_
    refine ex_aload_n ok_X12_forgetMatching (mi 0 rfl) rfl ?_
    refine ex_getRx ok_X12_forgetMatching (mi 1 rfl) rfl rfl (kq apq (fk hs 0 rfl)) (rq apq (fr hs 6 rfl)) (kq apq (fk hs 7 rfl)) (by decide) ?_
    refine ex_iload_n ok_X12_forgetMatching (mi 2 rfl) rfl ?_
    refine ex_iconst ok_X12_forgetMatching (mi 3 rfl) ?_
    refine ex_iasta (a := 7) (j := 2) (v := (nI 0)) ok_X12_forgetMatching (mi 4 rfl) (fk hs 7 rfl) (fn hs 7 rfl) (pk_in 2 3 (by decide)) (by decide) (by decide) ?_
    refine ex_aload_n ok_X12_forgetMatching (mi 5 rfl) rfl ?_
    refine ex_getRx ok_X12_forgetMatching (mi 6 rfl) rfl rfl (kq apq (fk hs 0 rfl)) (rq apq (fr hs 7 rfl)) (kq apq (fk hs 8 rfl)) (by decide) ?_
    refine ex_iload_n ok_X12_forgetMatching (mi 7 rfl) rfl ?_
    refine ex_iconst ok_X12_forgetMatching (mi 8 rfl) ?_
    refine ex_iasta (a := 8) (j := 2) (v := (nI 0)) ok_X12_forgetMatching (mi 9 rfl) (fk hs 8 rfl) (fn hs 8 rfl) (pk_in 2 3 (by decide)) (by decide) (by decide) ?_
    refine ex_iconst ok_X12_forgetMatching (mi 10 rfl) ?_
    refine ex_istore_n ok_X12_forgetMatching (mi 11 rfl) ?_
    refine ex_ls (ls' := [(0, .ref x), (1, .int (nI 2)), (2, .int (nI 0))]) ⟨rfl, rfl, rfl, trivial⟩ ?_
    refine lp_fm2 hs ?_
    refine ex_vret ok_X12_forgetMatching (mi 26 rfl) rfl ?_
    exact ⟨rfl, rfl⟩
  refine ex_aload_n ok_X12_forgetRounds (mi 3 rfl) rfl ?_
  refine ex_getRx ok_X12_forgetRounds (mi 4 rfl) rfl rfl (kq apq (fk hs 0 rfl)) (rq apq (fr hs 9 rfl)) (kq apq (fk hs 10 rfl)) (by decide) ?_
  refine ex_iload_n ok_X12_forgetRounds (mi 5 rfl) rfl ?_
  refine ex_iconst ok_X12_forgetRounds (mi 6 rfl) ?_
  refine ex_iasta (a := 10) (j := 2) (v := (nI 0)) ok_X12_forgetRounds (mi 7 rfl) (fk hs 10 rfl) (fn hs 10 rfl) (pk_in 2 3 (by decide)) (by decide) (by decide) ?_
  refine ex_aload_n ok_X12_forgetRounds (mi 8 rfl) rfl ?_
  refine ex_getRx ok_X12_forgetRounds (mi 9 rfl) rfl rfl (kq apq (fk hs 0 rfl)) (rq apq (fr hs 10 rfl)) (kq apq (fk hs 11 rfl)) (by decide) ?_
  refine ex_iload_n ok_X12_forgetRounds (mi 10 rfl) rfl ?_
  refine ex_iconst ok_X12_forgetRounds (mi 11 rfl) ?_
  refine ex_iasta (a := 11) (j := 2) (v := (nI 0)) ok_X12_forgetRounds (mi 12 rfl) (fk hs 11 rfl) (fn hs 11 rfl) (pk_in 2 3 (by decide)) (by decide) (by decide) ?_
  refine ex_aload_n ok_X12_forgetRounds (mi 13 rfl) rfl ?_
  refine ex_getRx ok_X12_forgetRounds (mi 14 rfl) rfl rfl (kq apq (fk hs 0 rfl)) (rq apq (fr hs 13 rfl)) (kq apq (fk hs 14 rfl)) (by decide) ?_
  refine ex_iload_n ok_X12_forgetRounds (mi 15 rfl) rfl ?_
  refine ex_iconst ok_X12_forgetRounds (mi 16 rfl) ?_
  refine ex_iasta (a := 14) (j := 2) (v := (nI 0)) ok_X12_forgetRounds (mi 17 rfl) (fk hs 14 rfl) (fn hs 14 rfl) (pk_in 2 3 (by decide)) (by decide) (by decide) ?_
  refine ex_aload_n ok_X12_forgetRounds (mi 18 rfl) rfl ?_
  refine ex_getRx ok_X12_forgetRounds (mi 19 rfl) rfl rfl (kq apq (fk hs 0 rfl)) (rq apq (fr hs 14 rfl)) (kq apq (fk hs 15 rfl)) (by decide) ?_
  refine ex_iload_n ok_X12_forgetRounds (mi 20 rfl) rfl ?_
  refine ex_iconst ok_X12_forgetRounds (mi 21 rfl) ?_
  refine ex_iasta (a := 15) (j := 2) (v := (nI 0)) ok_X12_forgetRounds (mi 22 rfl) (fk hs 15 rfl) (fn hs 15 rfl) (pk_in 2 3 (by decide)) (by decide) (by decide) ?_
  refine ex_iconst ok_X12_forgetRounds (mi 23 rfl) ?_
  refine ex_istore_n ok_X12_forgetRounds (mi 24 rfl) ?_
  refine ex_ls (ls' := [(0, .ref x), (1, .int (nI 2)), (2, .int (nI 0))]) ⟨rfl, rfl, rfl, trivial⟩ ?_
  refine lp_fo2 hs ?_
  refine ex_aload_n ok_X12_forgetRounds (mi 75 rfl) rfl ?_
  refine ex_getRx ok_X12_forgetRounds (mi 76 rfl) rfl rfl (kq apq (fk hs 0 rfl)) (rq apq (fr hs 19 rfl)) (kq apq (fk hs 20 rfl)) (by decide) ?_
  refine ex_iload_n ok_X12_forgetRounds (mi 77 rfl) rfl ?_
  refine ex_iconst ok_X12_forgetRounds (mi 78 rfl) ?_
  refine ex_iasta (a := 20) (j := 2) (v := (nI 0)) ok_X12_forgetRounds (mi 79 rfl) (fk hs 20 rfl) (fn hs 20 rfl) (pk_in 2 3 (by decide)) (by decide) (by decide) ?_
  refine ex_aload_n ok_X12_forgetRounds (mi 80 rfl) rfl ?_
  refine ex_iload_n ok_X12_forgetRounds (mi 81 rfl) rfl ?_
  refine ex_callVr (As := [_]) (v := none) (g1 := (ap x ((1, 25, 2, 0, (nI 0)) :: (1, 24, 2, 0, (nI 0)) :: (1, 23, 2, 0, (nI 0)) :: (1, 22, 2, 0, (nI 0)) :: (1, 21, 2, 0, (nI 0)) :: (1, 20, 2, 0, (nI 0)) :: (2, 12, 32, 48, ((-1))) :: (2, 16, 32, 48, (nI 0)) :: (2, 17, 32, 48, ((-1))) :: (2, 18, 32, 48, (nI 0)) :: (2, 19, 32, 48, (nI 0)) :: (1, 15, 2, 0, (nI 0)) :: (1, 14, 2, 0, (nI 0)) :: (1, 11, 2, 0, (nI 0)) :: (1, 10, 2, 0, (nI 0)) :: (2, 9, 600, 900, (nI 0)) :: (1, 8, 2, 0, (nI 0)) :: (1, 7, 2, 0, (nI 0)) :: ws) h)) ok_X12_forgetRounds (mi 82 rfl) rfl ?c rfl (kq apq (fk hs 0 rfl)) rfl rfl (by decide) (by decide) (Nat.le_of_ble_eq_true rfl) (by decide) ?_
  case c =>
    refine ex_M_of ok_X12_forgetCollecting cw_X12_forgetCollecting rfl hst (Nat.le_of_ble_eq_true rfl) ?_
    refine ex_aload_n ok_X12_forgetCollecting (mi 0 rfl) rfl ?_
    refine ex_getRx ok_X12_forgetCollecting (mi 1 rfl) rfl rfl (kq apq (fk hs 0 rfl)) (rq apq (fr hs 20 rfl)) (kq apq (fk hs 21 rfl)) (by decide) ?_
    refine ex_iload_n ok_X12_forgetCollecting (mi 2 rfl) rfl ?_
    refine ex_iconst ok_X12_forgetCollecting (mi 3 rfl) ?_
    refine ex_iasta (a := 21) (j := 2) (v := (nI 0)) ok_X12_forgetCollecting (mi 4 rfl) (fk hs 21 rfl) (fn hs 21 rfl) (pk_in 2 3 (by decide)) (by decide) (by decide) ?_
    refine ex_aload_n ok_X12_forgetCollecting (mi 5 rfl) rfl ?_
    refine ex_getRx ok_X12_forgetCollecting (mi 6 rfl) rfl rfl (kq apq (fk hs 0 rfl)) (rq apq (fr hs 21 rfl)) (kq apq (fk hs 22 rfl)) (by decide) ?_
    refine ex_iload_n ok_X12_forgetCollecting (mi 7 rfl) rfl ?_
    refine ex_iconst ok_X12_forgetCollecting (mi 8 rfl) ?_
    refine ex_iasta (a := 22) (j := 2) (v := (nI 0)) ok_X12_forgetCollecting (mi 9 rfl) (fk hs 22 rfl) (fn hs 22 rfl) (pk_in 2 3 (by decide)) (by decide) (by decide) ?_
    refine ex_aload_n ok_X12_forgetCollecting (mi 10 rfl) rfl ?_
    refine ex_getRx ok_X12_forgetCollecting (mi 11 rfl) rfl rfl (kq apq (fk hs 0 rfl)) (rq apq (fr hs 22 rfl)) (kq apq (fk hs 23 rfl)) (by decide) ?_
    refine ex_iload_n ok_X12_forgetCollecting (mi 12 rfl) rfl ?_
    refine ex_iconst ok_X12_forgetCollecting (mi 13 rfl) ?_
    refine ex_iasta (a := 23) (j := 2) (v := (nI 0)) ok_X12_forgetCollecting (mi 14 rfl) (fk hs 23 rfl) (fn hs 23 rfl) (pk_in 2 3 (by decide)) (by decide) (by decide) ?_
    refine ex_aload_n ok_X12_forgetCollecting (mi 15 rfl) rfl ?_
    refine ex_getRx ok_X12_forgetCollecting (mi 16 rfl) rfl rfl (kq apq (fk hs 0 rfl)) (rq apq (fr hs 23 rfl)) (kq apq (fk hs 24 rfl)) (by decide) ?_
    refine ex_iload_n ok_X12_forgetCollecting (mi 17 rfl) rfl ?_
    refine ex_iconst ok_X12_forgetCollecting (mi 18 rfl) ?_
    refine ex_iasta (a := 24) (j := 2) (v := (nI 0)) ok_X12_forgetCollecting (mi 19 rfl) (fk hs 24 rfl) (fn hs 24 rfl) (pk_in 2 3 (by decide)) (by decide) (by decide) ?_
    refine ex_aload_n ok_X12_forgetCollecting (mi 20 rfl) rfl ?_
    refine ex_getRx ok_X12_forgetCollecting (mi 21 rfl) rfl rfl (kq apq (fk hs 0 rfl)) (rq apq (fr hs 24 rfl)) (kq apq (fk hs 25 rfl)) (by decide) ?_
    refine ex_iload_n ok_X12_forgetCollecting (mi 22 rfl) rfl ?_
    refine ex_iconst ok_X12_forgetCollecting (mi 23 rfl) ?_
    refine ex_iasta (a := 25) (j := 2) (v := (nI 0)) ok_X12_forgetCollecting (mi 24 rfl) (fk hs 25 rfl) (fn hs 25 rfl) (pk_in 2 3 (by decide)) (by decide) (by decide) ?_
    refine ex_vret ok_X12_forgetCollecting (mi 25 rfl) rfl ?_
    exact ⟨rfl, rfl⟩
  refine ex_vret ok_X12_forgetRounds (mi 83 rfl) rfl ?_
  exact ⟨rfl, rfl⟩
def W_X12_forgetReform2 : List WT := [(2, 31, 600, 900, (nI 0)), (1, 33, 2, 0, (nI 0)), (1, 32, 2, 0, (-1)), (1, 30, 2, 0, (nI 0)), (1, 29, 2, 0, (nI 0))]
theorem m_X12_forgetReform2 {G : GE} (hst : (ge_l G).stackTraces = false) {x : Nat} {ws : List WT} {h : GT} (hs : sh T12 h x) : ex_M G 1 0 0 my_X12_forgetReform [.ref x, .int (nI 2)] (ap x ws h) (rv none (ap x (W_X12_forgetReform2 ++ ws) h)) := by
  refine ex_M_of ok_X12_forgetReform cw_X12_forgetReform rfl hst (Nat.le_of_ble_eq_true rfl) ?_
  refine ex_aload_n ok_X12_forgetReform (mi 0 rfl) rfl ?_
  refine ex_getRx ok_X12_forgetReform (mi 1 rfl) rfl rfl (kq apq (fk hs 0 rfl)) (rq apq (fr hs 28 rfl)) (kq apq (fk hs 29 rfl)) (by decide) ?_
  refine ex_iload_n ok_X12_forgetReform (mi 2 rfl) rfl ?_
  refine ex_iconst ok_X12_forgetReform (mi 3 rfl) ?_
  refine ex_iasta (a := 29) (j := 2) (v := (nI 0)) ok_X12_forgetReform (mi 4 rfl) (fk hs 29 rfl) (fn hs 29 rfl) (pk_in 2 3 (by decide)) (by decide) (by decide) ?_
  refine ex_aload_n ok_X12_forgetReform (mi 5 rfl) rfl ?_
  refine ex_getRx ok_X12_forgetReform (mi 6 rfl) rfl rfl (kq apq (fk hs 0 rfl)) (rq apq (fr hs 29 rfl)) (kq apq (fk hs 30 rfl)) (by decide) ?_
  refine ex_iload_n ok_X12_forgetReform (mi 7 rfl) rfl ?_
  refine ex_iconst ok_X12_forgetReform (mi 8 rfl) ?_
  refine ex_iasta (a := 30) (j := 2) (v := (nI 0)) ok_X12_forgetReform (mi 9 rfl) (fk hs 30 rfl) (fn hs 30 rfl) (pk_in 2 3 (by decide)) (by decide) (by decide) ?_
  refine ex_aload_n ok_X12_forgetReform (mi 10 rfl) rfl ?_
  refine ex_getRx ok_X12_forgetReform (mi 11 rfl) rfl rfl (kq apq (fk hs 0 rfl)) (rq apq (fr hs 31 rfl)) (kq apq (fk hs 32 rfl)) (by decide) ?_
  refine ex_iload_n ok_X12_forgetReform (mi 12 rfl) rfl ?_
  refine ex_iconst ok_X12_forgetReform (mi 13 rfl) ?_
  refine ex_iasta (a := 32) (j := 2) (v := (-1)) ok_X12_forgetReform (mi 14 rfl) (fk hs 32 rfl) (fn hs 32 rfl) (pk_in 2 3 (by decide)) (by decide) (by decide) ?_
  refine ex_aload_n ok_X12_forgetReform (mi 15 rfl) rfl ?_
  refine ex_getRx ok_X12_forgetReform (mi 16 rfl) rfl rfl (kq apq (fk hs 0 rfl)) (rq apq (fr hs 32 rfl)) (kq apq (fk hs 33 rfl)) (by decide) ?_
  refine ex_iload_n ok_X12_forgetReform (mi 17 rfl) rfl ?_
  refine ex_iconst ok_X12_forgetReform (mi 18 rfl) ?_
  refine ex_iasta (a := 33) (j := 2) (v := (nI 0)) ok_X12_forgetReform (mi 19 rfl) (fk hs 33 rfl) (fn hs 33 rfl) (pk_in 2 3 (by decide)) (by decide) (by decide) ?_
  refine ex_iconst ok_X12_forgetReform (mi 20 rfl) ?_
  refine ex_istore_n ok_X12_forgetReform (mi 21 rfl) ?_
  refine ex_ls (ls' := [(0, .ref x), (1, .int (nI 2)), (2, .int (nI 0))]) ⟨rfl, rfl, rfl, trivial⟩ ?_
  refine lp_fr2 hs ?_
  refine ex_vret ok_X12_forgetReform (mi 36 rfl) rfl ?_
  exact ⟨rfl, rfl⟩
def WC : List WT := [(0, 0, 1266, 0, (nI 0)), (0, 0, 1265, 0, (nI 0)), (0, 0, 1264, 0, (nI 0)), (0, 0, 1263, 0, (nI 0)), (0, 0, 1262, 0, (nI 0)), (2, 59, 0, 16, ((-1))), (2, 58, 0, 4800, (nI 0)), (2, 57, 0, 300, (nI 0)), (2, 49, 0, 402, (nI 0)), (0, 0, 1248, 0, (nI 0)), (2, 47, 0, 48, ((-1))), (2, 45, 0, 192, ((-1))), (1, 44, 11, 0, (nI 0)), (1, 43, 11, 0, (-1)), (1, 44, 10, 0, (nI 0)), (1, 43, 10, 0, (-1)), (1, 44, 9, 0, (nI 0)), (1, 43, 9, 0, (-1)), (1, 44, 8, 0, (nI 0)), (1, 43, 8, 0, (-1)), (1, 44, 7, 0, (nI 0)), (1, 43, 7, 0, (-1)), (1, 44, 6, 0, (nI 0)), (1, 43, 6, 0, (-1)), (1, 44, 5, 0, (nI 0)), (1, 43, 5, 0, (-1)), (1, 44, 4, 0, (nI 0)), (1, 43, 4, 0, (-1)), (1, 44, 3, 0, (nI 0)), (1, 43, 3, 0, (-1)), (1, 44, 2, 0, (nI 0)), (1, 43, 2, 0, (-1)), (1, 44, 1, 0, (nI 0)), (1, 43, 1, 0, (-1)), (1, 44, 0, 0, (nI 0)), (1, 43, 0, 0, (-1)), (2, 38, 0, 2700, (nI 0)), (1, 42, 8, 0, (nI 0)), (1, 41, 8, 0, (nI 0)), (1, 40, 8, 0, (-1)), (1, 39, 8, 0, (-1)), (1, 37, 8, 0, (nI 0)), (1, 36, 8, 0, (nI 0)), (1, 35, 8, 0, (-1)), (1, 34, 8, 0, (nI 0)), (1, 42, 7, 0, (nI 0)), (1, 41, 7, 0, (nI 0)), (1, 40, 7, 0, (-1)), (1, 39, 7, 0, (-1)), (1, 37, 7, 0, (nI 0)), (1, 36, 7, 0, (nI 0)), (1, 35, 7, 0, (-1)), (1, 34, 7, 0, (nI 0)), (1, 42, 6, 0, (nI 0)), (1, 41, 6, 0, (nI 0)), (1, 40, 6, 0, (-1)), (1, 39, 6, 0, (-1)), (1, 37, 6, 0, (nI 0)), (1, 36, 6, 0, (nI 0)), (1, 35, 6, 0, (-1)), (1, 34, 6, 0, (nI 0)), (1, 42, 5, 0, (nI 0)), (1, 41, 5, 0, (nI 0)), (1, 40, 5, 0, (-1)), (1, 39, 5, 0, (-1)), (1, 37, 5, 0, (nI 0)), (1, 36, 5, 0, (nI 0)), (1, 35, 5, 0, (-1)), (1, 34, 5, 0, (nI 0)), (1, 42, 4, 0, (nI 0)), (1, 41, 4, 0, (nI 0)), (1, 40, 4, 0, (-1)), (1, 39, 4, 0, (-1)), (1, 37, 4, 0, (nI 0)), (1, 36, 4, 0, (nI 0)), (1, 35, 4, 0, (-1)), (1, 34, 4, 0, (nI 0)), (1, 42, 3, 0, (nI 0)), (1, 41, 3, 0, (nI 0)), (1, 40, 3, 0, (-1)), (1, 39, 3, 0, (-1)), (1, 37, 3, 0, (nI 0)), (1, 36, 3, 0, (nI 0)), (1, 35, 3, 0, (-1)), (1, 34, 3, 0, (nI 0)), (1, 42, 2, 0, (nI 0)), (1, 41, 2, 0, (nI 0)), (1, 40, 2, 0, (-1)), (1, 39, 2, 0, (-1)), (1, 37, 2, 0, (nI 0)), (1, 36, 2, 0, (nI 7)), (1, 35, 2, 0, (nI 0)), (1, 34, 2, 0, (nI 2)), (1, 42, 1, 0, (nI 0)), (1, 41, 1, 0, (nI 0)), (1, 40, 1, 0, (-1)), (1, 39, 1, 0, (-1)), (1, 37, 1, 0, (nI 0)), (1, 36, 1, 0, (nI 7)), (1, 35, 1, 0, (nI 0)), (1, 34, 1, 0, (nI 2)), (1, 42, 0, 0, (nI 0)), (1, 41, 0, 0, (nI 0)), (1, 40, 0, 0, (-1)), (1, 39, 0, 0, (-1)), (1, 37, 0, 0, (nI 0)), (1, 36, 0, 0, (nI 7)), (1, 35, 0, 0, (nI 0)), (1, 34, 0, 0, (nI 2)), (2, 31, 600, 900, (nI 0)), (1, 33, 2, 0, (nI 0)), (1, 32, 2, 0, (-1)), (1, 30, 2, 0, (nI 0)), (1, 29, 2, 0, (nI 0)), (1, 28, 2, 0, (-1)), (1, 27, 2, 0, (nI 0)), (1, 26, 2, 0, (nI 0)), (1, 25, 2, 0, (nI 0)), (1, 24, 2, 0, (nI 0)), (1, 23, 2, 0, (nI 0)), (1, 22, 2, 0, (nI 0)), (1, 21, 2, 0, (nI 0)), (1, 20, 2, 0, (nI 0)), (2, 12, 32, 48, ((-1))), (2, 16, 32, 48, (nI 0)), (2, 17, 32, 48, ((-1))), (2, 18, 32, 48, (nI 0)), (2, 19, 32, 48, (nI 0)), (1, 15, 2, 0, (nI 0)), (1, 14, 2, 0, (nI 0)), (1, 11, 2, 0, (nI 0)), (1, 10, 2, 0, (nI 0)), (2, 9, 600, 900, (nI 0)), (1, 8, 2, 0, (nI 0)), (1, 7, 2, 0, (nI 0)), (1, 6, 2, 0, (nI 7)), (1, 5, 2, 0, (nI 0)), (1, 4, 2, 0, (nI 0)), (1, 3, 2, 0, (-1)), (1, 2, 2, 0, (nI 0)), (2, 31, 300, 600, (nI 0)), (1, 33, 1, 0, (nI 0)), (1, 32, 1, 0, (-1)), (1, 30, 1, 0, (nI 0)), (1, 29, 1, 0, (nI 0)), (1, 28, 1, 0, (-1)), (1, 27, 1, 0, (nI 0)), (1, 26, 1, 0, (nI 0)), (1, 25, 1, 0, (nI 0)), (1, 24, 1, 0, (nI 0)), (1, 23, 1, 0, (nI 0)), (1, 22, 1, 0, (nI 0)), (1, 21, 1, 0, (nI 0)), (1, 20, 1, 0, (nI 0)), (2, 12, 16, 32, ((-1))), (2, 16, 16, 32, (nI 0)), (2, 17, 16, 32, ((-1))), (2, 18, 16, 32, (nI 0)), (2, 19, 16, 32, (nI 0)), (1, 15, 1, 0, (nI 0)), (1, 14, 1, 0, (nI 0)), (1, 11, 1, 0, (nI 0)), (1, 10, 1, 0, (nI 0)), (2, 9, 300, 600, (nI 0)), (1, 8, 1, 0, (nI 0)), (1, 7, 1, 0, (nI 0)), (1, 6, 1, 0, (nI 7)), (1, 5, 1, 0, (nI 0)), (1, 4, 1, 0, (nI 0)), (1, 3, 1, 0, (-1)), (1, 2, 1, 0, (nI 0)), (2, 31, 0, 300, (nI 0)), (1, 33, 0, 0, (nI 0)), (1, 32, 0, 0, (-1)), (1, 30, 0, 0, (nI 0)), (1, 29, 0, 0, (nI 0)), (1, 28, 0, 0, (-1)), (1, 27, 0, 0, (nI 0)), (1, 26, 0, 0, (nI 0)), (1, 25, 0, 0, (nI 0)), (1, 24, 0, 0, (nI 0)), (1, 23, 0, 0, (nI 0)), (1, 22, 0, 0, (nI 0)), (1, 21, 0, 0, (nI 0)), (1, 20, 0, 0, (nI 0)), (2, 12, 0, 16, ((-1))), (2, 16, 0, 16, (nI 0)), (2, 17, 0, 16, ((-1))), (2, 18, 0, 16, (nI 0)), (2, 19, 0, 16, (nI 0)), (1, 15, 0, 0, (nI 0)), (1, 14, 0, 0, (nI 0)), (1, 11, 0, 0, (nI 0)), (1, 10, 0, 0, (nI 0)), (2, 9, 0, 300, (nI 0)), (1, 8, 0, 0, (nI 0)), (1, 7, 0, 0, (nI 0)), (1, 6, 0, 0, (nI 7)), (1, 5, 0, 0, (nI 0)), (1, 4, 0, 0, (nI 0)), (1, 3, 0, 0, (-1)), (1, 2, 0, 0, (nI 0)), (2, 1, 0, 27, (nI 0)), (0, 0, 1200, 0, (nI 0))]
theorem m_X12_clear {G : GE} (hst : (ge_l G).stackTraces = false) {x : Nat} {h : GT} (hs : sh T12 h x) : ex_M G 3 0 0 my_X12_clear [.ref x] h (rv none (ap x WC h)) := by
  refine ex_M_of ok_X12_clear cw_X12_clear rfl hst (Nat.le_of_ble_eq_true rfl) ?_
  refine ex_aload_n ok_X12_clear (mi 0 rfl) rfl ?_
  refine ex_iconst ok_X12_clear (mi 1 rfl) ?_
  refine ex_putIa (ws := []) (a := 0) (v := (nI 0)) ok_X12_clear (mi 2 rfl) rfl rfl (fk hs 0 rfl) (by decide) ?_
  refine ex_iconst ok_X12_clear (mi 3 rfl) ?_
  refine ex_istore_n ok_X12_clear (mi 4 rfl) ?_
  refine ex_ls (ls' := [(0, .ref x), (1, .int (nI 0))]) ⟨rfl, rfl, trivial⟩ ?_
  refine lp_c7 hs ?_
  refine ex_iconst ok_X12_clear (mi 15 rfl) ?_
  refine ex_istore_n ok_X12_clear (mi 16 rfl) ?_
  refine ex_iload_n ok_X12_clear (mi 17 rfl) rfl ?_
  refine ex_iconst ok_X12_clear (mi 18 rfl) ?_
  refine ex_icmp_ge (tgt := 106) ok_X12_clear (mi 19 rfl) rfl (fun hn => absurd hn (by decide)) (fun _ => ?_)
  refine ex_aload_n ok_X12_clear (mi 20 rfl) rfl ?_
  refine ex_getRx ok_X12_clear (mi 21 rfl) rfl rfl (kq apq (fk hs 0 rfl)) (rq apq (fr hs 1 rfl)) (kq apq (fk hs 2 rfl)) (by decide) ?_
  refine ex_iload_n ok_X12_clear (mi 22 rfl) rfl ?_
  refine ex_iconst ok_X12_clear (mi 23 rfl) ?_
  refine ex_iasta (a := 2) (j := 0) (v := (nI 0)) ok_X12_clear (mi 24 rfl) (fk hs 2 rfl) (fn hs 2 rfl) (pk_in 0 3 (by decide)) (by decide) (by decide) ?_
  refine ex_aload_n ok_X12_clear (mi 25 rfl) rfl ?_
  refine ex_getRx ok_X12_clear (mi 26 rfl) rfl rfl (kq apq (fk hs 0 rfl)) (rq apq (fr hs 2 rfl)) (kq apq (fk hs 3 rfl)) (by decide) ?_
  refine ex_iload_n ok_X12_clear (mi 27 rfl) rfl ?_
  refine ex_iconst ok_X12_clear (mi 28 rfl) ?_
  refine ex_iasta (a := 3) (j := 0) (v := (-1)) ok_X12_clear (mi 29 rfl) (fk hs 3 rfl) (fn hs 3 rfl) (pk_in 0 3 (by decide)) (by decide) (by decide) ?_
  refine ex_aload_n ok_X12_clear (mi 30 rfl) rfl ?_
  refine ex_getRx ok_X12_clear (mi 31 rfl) rfl rfl (kq apq (fk hs 0 rfl)) (rq apq (fr hs 3 rfl)) (kq apq (fk hs 4 rfl)) (by decide) ?_
  refine ex_iload_n ok_X12_clear (mi 32 rfl) rfl ?_
  refine ex_iconst ok_X12_clear (mi 33 rfl) ?_
  refine ex_iasta (a := 4) (j := 0) (v := (nI 0)) ok_X12_clear (mi 34 rfl) (fk hs 4 rfl) (fn hs 4 rfl) (pk_in 0 3 (by decide)) (by decide) (by decide) ?_
  refine ex_aload_n ok_X12_clear (mi 35 rfl) rfl ?_
  refine ex_getRx ok_X12_clear (mi 36 rfl) rfl rfl (kq apq (fk hs 0 rfl)) (rq apq (fr hs 4 rfl)) (kq apq (fk hs 5 rfl)) (by decide) ?_
  refine ex_iload_n ok_X12_clear (mi 37 rfl) rfl ?_
  refine ex_iconst ok_X12_clear (mi 38 rfl) ?_
  refine ex_iasta (a := 5) (j := 0) (v := (nI 0)) ok_X12_clear (mi 39 rfl) (fk hs 5 rfl) (fn hs 5 rfl) (pk_in 0 3 (by decide)) (by decide) (by decide) ?_
  refine ex_aload_n ok_X12_clear (mi 40 rfl) rfl ?_
  refine ex_getRx ok_X12_clear (mi 41 rfl) rfl rfl (kq apq (fk hs 0 rfl)) (rq apq (fr hs 5 rfl)) (kq apq (fk hs 6 rfl)) (by decide) ?_
  refine ex_iload_n ok_X12_clear (mi 42 rfl) rfl ?_
  refine ex_bipush ok_X12_clear (mi 43 rfl) ?_
  refine ex_iasta (a := 6) (j := 0) (v := (nI 7)) ok_X12_clear (mi 44 rfl) (fk hs 6 rfl) (fn hs 6 rfl) (pk_in 0 3 (by decide)) (by decide) (by decide) ?_
  refine ex_aload_n ok_X12_clear (mi 45 rfl) rfl ?_
  refine ex_iload_n ok_X12_clear (mi 46 rfl) rfl ?_
  refine ex_callVr (As := [_]) (v := none) (g1 := (ap x [(1, 25, 0, 0, (nI 0)), (1, 24, 0, 0, (nI 0)), (1, 23, 0, 0, (nI 0)), (1, 22, 0, 0, (nI 0)), (1, 21, 0, 0, (nI 0)), (1, 20, 0, 0, (nI 0)), (2, 12, 0, 16, ((-1))), (2, 16, 0, 16, (nI 0)), (2, 17, 0, 16, ((-1))), (2, 18, 0, 16, (nI 0)), (2, 19, 0, 16, (nI 0)), (1, 15, 0, 0, (nI 0)), (1, 14, 0, 0, (nI 0)), (1, 11, 0, 0, (nI 0)), (1, 10, 0, 0, (nI 0)), (2, 9, 0, 300, (nI 0)), (1, 8, 0, 0, (nI 0)), (1, 7, 0, 0, (nI 0)), (1, 6, 0, 0, (nI 7)), (1, 5, 0, 0, (nI 0)), (1, 4, 0, 0, (nI 0)), (1, 3, 0, 0, (-1)), (1, 2, 0, 0, (nI 0)), (2, 1, 0, 27, (nI 0)), (0, 0, 1200, 0, (nI 0))] h)) ok_X12_clear (mi 47 rfl) rfl (m_X12_forgetRounds0 hst hs) rfl (kq apq (fk hs 0 rfl)) rfl rfl (by decide) (by decide) (Nat.le_of_ble_eq_true rfl) (by decide) ?_
  refine ex_aload_n ok_X12_clear (mi 48 rfl) rfl ?_
  refine ex_getRx ok_X12_clear (mi 49 rfl) rfl rfl (kq apq (fk hs 0 rfl)) (rq apq (fr hs 25 rfl)) (kq apq (fk hs 26 rfl)) (by decide) ?_
  refine ex_iload_n ok_X12_clear (mi 50 rfl) rfl ?_
  refine ex_iconst ok_X12_clear (mi 51 rfl) ?_
  refine ex_iasta (a := 26) (j := 0) (v := (nI 0)) ok_X12_clear (mi 52 rfl) (fk hs 26 rfl) (fn hs 26 rfl) (pk_in 0 3 (by decide)) (by decide) (by decide) ?_
  refine ex_aload_n ok_X12_clear (mi 53 rfl) rfl ?_
  refine ex_getRx ok_X12_clear (mi 54 rfl) rfl rfl (kq apq (fk hs 0 rfl)) (rq apq (fr hs 26 rfl)) (kq apq (fk hs 27 rfl)) (by decide) ?_
  refine ex_iload_n ok_X12_clear (mi 55 rfl) rfl ?_
  refine ex_iconst ok_X12_clear (mi 56 rfl) ?_
  refine ex_iasta (a := 27) (j := 0) (v := (nI 0)) ok_X12_clear (mi 57 rfl) (fk hs 27 rfl) (fn hs 27 rfl) (pk_in 0 3 (by decide)) (by decide) (by decide) ?_
  refine ex_aload_n ok_X12_clear (mi 58 rfl) rfl ?_
  refine ex_getRx ok_X12_clear (mi 59 rfl) rfl rfl (kq apq (fk hs 0 rfl)) (rq apq (fr hs 27 rfl)) (kq apq (fk hs 28 rfl)) (by decide) ?_
  refine ex_iload_n ok_X12_clear (mi 60 rfl) rfl ?_
  refine ex_iconst ok_X12_clear (mi 61 rfl) ?_
  refine ex_iasta (a := 28) (j := 0) (v := (-1)) ok_X12_clear (mi 62 rfl) (fk hs 28 rfl) (fn hs 28 rfl) (pk_in 0 3 (by decide)) (by decide) (by decide) ?_
  refine ex_aload_n ok_X12_clear (mi 63 rfl) rfl ?_
  refine ex_iload_n ok_X12_clear (mi 64 rfl) rfl ?_
  refine ex_callVr (As := [_]) (v := none) (g1 := (ap x [(2, 31, 0, 300, (nI 0)), (1, 33, 0, 0, (nI 0)), (1, 32, 0, 0, (-1)), (1, 30, 0, 0, (nI 0)), (1, 29, 0, 0, (nI 0)), (1, 28, 0, 0, (-1)), (1, 27, 0, 0, (nI 0)), (1, 26, 0, 0, (nI 0)), (1, 25, 0, 0, (nI 0)), (1, 24, 0, 0, (nI 0)), (1, 23, 0, 0, (nI 0)), (1, 22, 0, 0, (nI 0)), (1, 21, 0, 0, (nI 0)), (1, 20, 0, 0, (nI 0)), (2, 12, 0, 16, ((-1))), (2, 16, 0, 16, (nI 0)), (2, 17, 0, 16, ((-1))), (2, 18, 0, 16, (nI 0)), (2, 19, 0, 16, (nI 0)), (1, 15, 0, 0, (nI 0)), (1, 14, 0, 0, (nI 0)), (1, 11, 0, 0, (nI 0)), (1, 10, 0, 0, (nI 0)), (2, 9, 0, 300, (nI 0)), (1, 8, 0, 0, (nI 0)), (1, 7, 0, 0, (nI 0)), (1, 6, 0, 0, (nI 7)), (1, 5, 0, 0, (nI 0)), (1, 4, 0, 0, (nI 0)), (1, 3, 0, 0, (-1)), (1, 2, 0, 0, (nI 0)), (2, 1, 0, 27, (nI 0)), (0, 0, 1200, 0, (nI 0))] h)) ok_X12_clear (mi 65 rfl) rfl (m_X12_forgetReform0 hst hs) rfl (kq apq (fk hs 0 rfl)) rfl rfl (by decide) (by decide) (Nat.le_of_ble_eq_true rfl) (by decide) ?_
  refine ex_iincx (w := (nI 1)) ok_X12_clear (mi 66 rfl) rfl (by decide) ?_
  refine ex_goto (tgt := 28) ok_X12_clear (mi 67 rfl) rfl ?_
  refine ex_ls (ls' := [(0, .ref x), (1, .int (nI 1))]) ⟨rfl, rfl, trivial⟩ ?_
  refine ex_iload_n ok_X12_clear (mi 17 rfl) rfl ?_
  refine ex_iconst ok_X12_clear (mi 18 rfl) ?_
  refine ex_icmp_ge (tgt := 106) ok_X12_clear (mi 19 rfl) rfl (fun hn => absurd hn (by decide)) (fun _ => ?_)
  refine ex_aload_n ok_X12_clear (mi 20 rfl) rfl ?_
  refine ex_getRx ok_X12_clear (mi 21 rfl) rfl rfl (kq apq (fk hs 0 rfl)) (rq apq (fr hs 1 rfl)) (kq apq (fk hs 2 rfl)) (by decide) ?_
  refine ex_iload_n ok_X12_clear (mi 22 rfl) rfl ?_
  refine ex_iconst ok_X12_clear (mi 23 rfl) ?_
  refine ex_iasta (a := 2) (j := 1) (v := (nI 0)) ok_X12_clear (mi 24 rfl) (fk hs 2 rfl) (fn hs 2 rfl) (pk_in 1 3 (by decide)) (by decide) (by decide) ?_
  refine ex_aload_n ok_X12_clear (mi 25 rfl) rfl ?_
  refine ex_getRx ok_X12_clear (mi 26 rfl) rfl rfl (kq apq (fk hs 0 rfl)) (rq apq (fr hs 2 rfl)) (kq apq (fk hs 3 rfl)) (by decide) ?_
  refine ex_iload_n ok_X12_clear (mi 27 rfl) rfl ?_
  refine ex_iconst ok_X12_clear (mi 28 rfl) ?_
  refine ex_iasta (a := 3) (j := 1) (v := (-1)) ok_X12_clear (mi 29 rfl) (fk hs 3 rfl) (fn hs 3 rfl) (pk_in 1 3 (by decide)) (by decide) (by decide) ?_
  refine ex_aload_n ok_X12_clear (mi 30 rfl) rfl ?_
  refine ex_getRx ok_X12_clear (mi 31 rfl) rfl rfl (kq apq (fk hs 0 rfl)) (rq apq (fr hs 3 rfl)) (kq apq (fk hs 4 rfl)) (by decide) ?_
  refine ex_iload_n ok_X12_clear (mi 32 rfl) rfl ?_
  refine ex_iconst ok_X12_clear (mi 33 rfl) ?_
  refine ex_iasta (a := 4) (j := 1) (v := (nI 0)) ok_X12_clear (mi 34 rfl) (fk hs 4 rfl) (fn hs 4 rfl) (pk_in 1 3 (by decide)) (by decide) (by decide) ?_
  refine ex_aload_n ok_X12_clear (mi 35 rfl) rfl ?_
  refine ex_getRx ok_X12_clear (mi 36 rfl) rfl rfl (kq apq (fk hs 0 rfl)) (rq apq (fr hs 4 rfl)) (kq apq (fk hs 5 rfl)) (by decide) ?_
  refine ex_iload_n ok_X12_clear (mi 37 rfl) rfl ?_
  refine ex_iconst ok_X12_clear (mi 38 rfl) ?_
  refine ex_iasta (a := 5) (j := 1) (v := (nI 0)) ok_X12_clear (mi 39 rfl) (fk hs 5 rfl) (fn hs 5 rfl) (pk_in 1 3 (by decide)) (by decide) (by decide) ?_
  refine ex_aload_n ok_X12_clear (mi 40 rfl) rfl ?_
  refine ex_getRx ok_X12_clear (mi 41 rfl) rfl rfl (kq apq (fk hs 0 rfl)) (rq apq (fr hs 5 rfl)) (kq apq (fk hs 6 rfl)) (by decide) ?_
  refine ex_iload_n ok_X12_clear (mi 42 rfl) rfl ?_
  refine ex_bipush ok_X12_clear (mi 43 rfl) ?_
  refine ex_iasta (a := 6) (j := 1) (v := (nI 7)) ok_X12_clear (mi 44 rfl) (fk hs 6 rfl) (fn hs 6 rfl) (pk_in 1 3 (by decide)) (by decide) (by decide) ?_
  refine ex_aload_n ok_X12_clear (mi 45 rfl) rfl ?_
  refine ex_iload_n ok_X12_clear (mi 46 rfl) rfl ?_
  refine ex_callVr (As := [_]) (v := none) (g1 := (ap x [(1, 25, 1, 0, (nI 0)), (1, 24, 1, 0, (nI 0)), (1, 23, 1, 0, (nI 0)), (1, 22, 1, 0, (nI 0)), (1, 21, 1, 0, (nI 0)), (1, 20, 1, 0, (nI 0)), (2, 12, 16, 32, ((-1))), (2, 16, 16, 32, (nI 0)), (2, 17, 16, 32, ((-1))), (2, 18, 16, 32, (nI 0)), (2, 19, 16, 32, (nI 0)), (1, 15, 1, 0, (nI 0)), (1, 14, 1, 0, (nI 0)), (1, 11, 1, 0, (nI 0)), (1, 10, 1, 0, (nI 0)), (2, 9, 300, 600, (nI 0)), (1, 8, 1, 0, (nI 0)), (1, 7, 1, 0, (nI 0)), (1, 6, 1, 0, (nI 7)), (1, 5, 1, 0, (nI 0)), (1, 4, 1, 0, (nI 0)), (1, 3, 1, 0, (-1)), (1, 2, 1, 0, (nI 0)), (2, 31, 0, 300, (nI 0)), (1, 33, 0, 0, (nI 0)), (1, 32, 0, 0, (-1)), (1, 30, 0, 0, (nI 0)), (1, 29, 0, 0, (nI 0)), (1, 28, 0, 0, (-1)), (1, 27, 0, 0, (nI 0)), (1, 26, 0, 0, (nI 0)), (1, 25, 0, 0, (nI 0)), (1, 24, 0, 0, (nI 0)), (1, 23, 0, 0, (nI 0)), (1, 22, 0, 0, (nI 0)), (1, 21, 0, 0, (nI 0)), (1, 20, 0, 0, (nI 0)), (2, 12, 0, 16, ((-1))), (2, 16, 0, 16, (nI 0)), (2, 17, 0, 16, ((-1))), (2, 18, 0, 16, (nI 0)), (2, 19, 0, 16, (nI 0)), (1, 15, 0, 0, (nI 0)), (1, 14, 0, 0, (nI 0)), (1, 11, 0, 0, (nI 0)), (1, 10, 0, 0, (nI 0)), (2, 9, 0, 300, (nI 0)), (1, 8, 0, 0, (nI 0)), (1, 7, 0, 0, (nI 0)), (1, 6, 0, 0, (nI 7)), (1, 5, 0, 0, (nI 0)), (1, 4, 0, 0, (nI 0)), (1, 3, 0, 0, (-1)), (1, 2, 0, 0, (nI 0)), (2, 1, 0, 27, (nI 0)), (0, 0, 1200, 0, (nI 0))] h)) ok_X12_clear (mi 47 rfl) rfl (m_X12_forgetRounds1 hst hs) rfl (kq apq (fk hs 0 rfl)) rfl rfl (by decide) (by decide) (Nat.le_of_ble_eq_true rfl) (by decide) ?_
  refine ex_aload_n ok_X12_clear (mi 48 rfl) rfl ?_
  refine ex_getRx ok_X12_clear (mi 49 rfl) rfl rfl (kq apq (fk hs 0 rfl)) (rq apq (fr hs 25 rfl)) (kq apq (fk hs 26 rfl)) (by decide) ?_
  refine ex_iload_n ok_X12_clear (mi 50 rfl) rfl ?_
  refine ex_iconst ok_X12_clear (mi 51 rfl) ?_
  refine ex_iasta (a := 26) (j := 1) (v := (nI 0)) ok_X12_clear (mi 52 rfl) (fk hs 26 rfl) (fn hs 26 rfl) (pk_in 1 3 (by decide)) (by decide) (by decide) ?_
  refine ex_aload_n ok_X12_clear (mi 53 rfl) rfl ?_
  refine ex_getRx ok_X12_clear (mi 54 rfl) rfl rfl (kq apq (fk hs 0 rfl)) (rq apq (fr hs 26 rfl)) (kq apq (fk hs 27 rfl)) (by decide) ?_
  refine ex_iload_n ok_X12_clear (mi 55 rfl) rfl ?_
  refine ex_iconst ok_X12_clear (mi 56 rfl) ?_
  refine ex_iasta (a := 27) (j := 1) (v := (nI 0)) ok_X12_clear (mi 57 rfl) (fk hs 27 rfl) (fn hs 27 rfl) (pk_in 1 3 (by decide)) (by decide) (by decide) ?_
  refine ex_aload_n ok_X12_clear (mi 58 rfl) rfl ?_
  refine ex_getRx ok_X12_clear (mi 59 rfl) rfl rfl (kq apq (fk hs 0 rfl)) (rq apq (fr hs 27 rfl)) (kq apq (fk hs 28 rfl)) (by decide) ?_
  refine ex_iload_n ok_X12_clear (mi 60 rfl) rfl ?_
  refine ex_iconst ok_X12_clear (mi 61 rfl) ?_
  refine ex_iasta (a := 28) (j := 1) (v := (-1)) ok_X12_clear (mi 62 rfl) (fk hs 28 rfl) (fn hs 28 rfl) (pk_in 1 3 (by decide)) (by decide) (by decide) ?_
  refine ex_aload_n ok_X12_clear (mi 63 rfl) rfl ?_
  refine ex_iload_n ok_X12_clear (mi 64 rfl) rfl ?_
  refine ex_callVr (As := [_]) (v := none) (g1 := (ap x [(2, 31, 300, 600, (nI 0)), (1, 33, 1, 0, (nI 0)), (1, 32, 1, 0, (-1)), (1, 30, 1, 0, (nI 0)), (1, 29, 1, 0, (nI 0)), (1, 28, 1, 0, (-1)), (1, 27, 1, 0, (nI 0)), (1, 26, 1, 0, (nI 0)), (1, 25, 1, 0, (nI 0)), (1, 24, 1, 0, (nI 0)), (1, 23, 1, 0, (nI 0)), (1, 22, 1, 0, (nI 0)), (1, 21, 1, 0, (nI 0)), (1, 20, 1, 0, (nI 0)), (2, 12, 16, 32, ((-1))), (2, 16, 16, 32, (nI 0)), (2, 17, 16, 32, ((-1))), (2, 18, 16, 32, (nI 0)), (2, 19, 16, 32, (nI 0)), (1, 15, 1, 0, (nI 0)), (1, 14, 1, 0, (nI 0)), (1, 11, 1, 0, (nI 0)), (1, 10, 1, 0, (nI 0)), (2, 9, 300, 600, (nI 0)), (1, 8, 1, 0, (nI 0)), (1, 7, 1, 0, (nI 0)), (1, 6, 1, 0, (nI 7)), (1, 5, 1, 0, (nI 0)), (1, 4, 1, 0, (nI 0)), (1, 3, 1, 0, (-1)), (1, 2, 1, 0, (nI 0)), (2, 31, 0, 300, (nI 0)), (1, 33, 0, 0, (nI 0)), (1, 32, 0, 0, (-1)), (1, 30, 0, 0, (nI 0)), (1, 29, 0, 0, (nI 0)), (1, 28, 0, 0, (-1)), (1, 27, 0, 0, (nI 0)), (1, 26, 0, 0, (nI 0)), (1, 25, 0, 0, (nI 0)), (1, 24, 0, 0, (nI 0)), (1, 23, 0, 0, (nI 0)), (1, 22, 0, 0, (nI 0)), (1, 21, 0, 0, (nI 0)), (1, 20, 0, 0, (nI 0)), (2, 12, 0, 16, ((-1))), (2, 16, 0, 16, (nI 0)), (2, 17, 0, 16, ((-1))), (2, 18, 0, 16, (nI 0)), (2, 19, 0, 16, (nI 0)), (1, 15, 0, 0, (nI 0)), (1, 14, 0, 0, (nI 0)), (1, 11, 0, 0, (nI 0)), (1, 10, 0, 0, (nI 0)), (2, 9, 0, 300, (nI 0)), (1, 8, 0, 0, (nI 0)), (1, 7, 0, 0, (nI 0)), (1, 6, 0, 0, (nI 7)), (1, 5, 0, 0, (nI 0)), (1, 4, 0, 0, (nI 0)), (1, 3, 0, 0, (-1)), (1, 2, 0, 0, (nI 0)), (2, 1, 0, 27, (nI 0)), (0, 0, 1200, 0, (nI 0))] h)) ok_X12_clear (mi 65 rfl) rfl (m_X12_forgetReform1 hst hs) rfl (kq apq (fk hs 0 rfl)) rfl rfl (by decide) (by decide) (Nat.le_of_ble_eq_true rfl) (by decide) ?_
  refine ex_iincx (w := (nI 2)) ok_X12_clear (mi 66 rfl) rfl (by decide) ?_
  refine ex_goto (tgt := 28) ok_X12_clear (mi 67 rfl) rfl ?_
  refine ex_ls (ls' := [(0, .ref x), (1, .int (nI 2))]) ⟨rfl, rfl, trivial⟩ ?_
  refine ex_iload_n ok_X12_clear (mi 17 rfl) rfl ?_
  refine ex_iconst ok_X12_clear (mi 18 rfl) ?_
  refine ex_icmp_ge (tgt := 106) ok_X12_clear (mi 19 rfl) rfl (fun hn => absurd hn (by decide)) (fun _ => ?_)
  refine ex_aload_n ok_X12_clear (mi 20 rfl) rfl ?_
  refine ex_getRx ok_X12_clear (mi 21 rfl) rfl rfl (kq apq (fk hs 0 rfl)) (rq apq (fr hs 1 rfl)) (kq apq (fk hs 2 rfl)) (by decide) ?_
  refine ex_iload_n ok_X12_clear (mi 22 rfl) rfl ?_
  refine ex_iconst ok_X12_clear (mi 23 rfl) ?_
  refine ex_iasta (a := 2) (j := 2) (v := (nI 0)) ok_X12_clear (mi 24 rfl) (fk hs 2 rfl) (fn hs 2 rfl) (pk_in 2 3 (by decide)) (by decide) (by decide) ?_
  refine ex_aload_n ok_X12_clear (mi 25 rfl) rfl ?_
  refine ex_getRx ok_X12_clear (mi 26 rfl) rfl rfl (kq apq (fk hs 0 rfl)) (rq apq (fr hs 2 rfl)) (kq apq (fk hs 3 rfl)) (by decide) ?_
  refine ex_iload_n ok_X12_clear (mi 27 rfl) rfl ?_
  refine ex_iconst ok_X12_clear (mi 28 rfl) ?_
  refine ex_iasta (a := 3) (j := 2) (v := (-1)) ok_X12_clear (mi 29 rfl) (fk hs 3 rfl) (fn hs 3 rfl) (pk_in 2 3 (by decide)) (by decide) (by decide) ?_
  refine ex_aload_n ok_X12_clear (mi 30 rfl) rfl ?_
  refine ex_getRx ok_X12_clear (mi 31 rfl) rfl rfl (kq apq (fk hs 0 rfl)) (rq apq (fr hs 3 rfl)) (kq apq (fk hs 4 rfl)) (by decide) ?_
  refine ex_iload_n ok_X12_clear (mi 32 rfl) rfl ?_
  refine ex_iconst ok_X12_clear (mi 33 rfl) ?_
  refine ex_iasta (a := 4) (j := 2) (v := (nI 0)) ok_X12_clear (mi 34 rfl) (fk hs 4 rfl) (fn hs 4 rfl) (pk_in 2 3 (by decide)) (by decide) (by decide) ?_
  refine ex_aload_n ok_X12_clear (mi 35 rfl) rfl ?_
  refine ex_getRx ok_X12_clear (mi 36 rfl) rfl rfl (kq apq (fk hs 0 rfl)) (rq apq (fr hs 4 rfl)) (kq apq (fk hs 5 rfl)) (by decide) ?_
  refine ex_iload_n ok_X12_clear (mi 37 rfl) rfl ?_
  refine ex_iconst ok_X12_clear (mi 38 rfl) ?_
  refine ex_iasta (a := 5) (j := 2) (v := (nI 0)) ok_X12_clear (mi 39 rfl) (fk hs 5 rfl) (fn hs 5 rfl) (pk_in 2 3 (by decide)) (by decide) (by decide) ?_
  refine ex_aload_n ok_X12_clear (mi 40 rfl) rfl ?_
  refine ex_getRx ok_X12_clear (mi 41 rfl) rfl rfl (kq apq (fk hs 0 rfl)) (rq apq (fr hs 5 rfl)) (kq apq (fk hs 6 rfl)) (by decide) ?_
  refine ex_iload_n ok_X12_clear (mi 42 rfl) rfl ?_
  refine ex_bipush ok_X12_clear (mi 43 rfl) ?_
  refine ex_iasta (a := 6) (j := 2) (v := (nI 7)) ok_X12_clear (mi 44 rfl) (fk hs 6 rfl) (fn hs 6 rfl) (pk_in 2 3 (by decide)) (by decide) (by decide) ?_
  refine ex_aload_n ok_X12_clear (mi 45 rfl) rfl ?_
  refine ex_iload_n ok_X12_clear (mi 46 rfl) rfl ?_
  refine ex_callVr (As := [_]) (v := none) (g1 := (ap x [(1, 25, 2, 0, (nI 0)), (1, 24, 2, 0, (nI 0)), (1, 23, 2, 0, (nI 0)), (1, 22, 2, 0, (nI 0)), (1, 21, 2, 0, (nI 0)), (1, 20, 2, 0, (nI 0)), (2, 12, 32, 48, ((-1))), (2, 16, 32, 48, (nI 0)), (2, 17, 32, 48, ((-1))), (2, 18, 32, 48, (nI 0)), (2, 19, 32, 48, (nI 0)), (1, 15, 2, 0, (nI 0)), (1, 14, 2, 0, (nI 0)), (1, 11, 2, 0, (nI 0)), (1, 10, 2, 0, (nI 0)), (2, 9, 600, 900, (nI 0)), (1, 8, 2, 0, (nI 0)), (1, 7, 2, 0, (nI 0)), (1, 6, 2, 0, (nI 7)), (1, 5, 2, 0, (nI 0)), (1, 4, 2, 0, (nI 0)), (1, 3, 2, 0, (-1)), (1, 2, 2, 0, (nI 0)), (2, 31, 300, 600, (nI 0)), (1, 33, 1, 0, (nI 0)), (1, 32, 1, 0, (-1)), (1, 30, 1, 0, (nI 0)), (1, 29, 1, 0, (nI 0)), (1, 28, 1, 0, (-1)), (1, 27, 1, 0, (nI 0)), (1, 26, 1, 0, (nI 0)), (1, 25, 1, 0, (nI 0)), (1, 24, 1, 0, (nI 0)), (1, 23, 1, 0, (nI 0)), (1, 22, 1, 0, (nI 0)), (1, 21, 1, 0, (nI 0)), (1, 20, 1, 0, (nI 0)), (2, 12, 16, 32, ((-1))), (2, 16, 16, 32, (nI 0)), (2, 17, 16, 32, ((-1))), (2, 18, 16, 32, (nI 0)), (2, 19, 16, 32, (nI 0)), (1, 15, 1, 0, (nI 0)), (1, 14, 1, 0, (nI 0)), (1, 11, 1, 0, (nI 0)), (1, 10, 1, 0, (nI 0)), (2, 9, 300, 600, (nI 0)), (1, 8, 1, 0, (nI 0)), (1, 7, 1, 0, (nI 0)), (1, 6, 1, 0, (nI 7)), (1, 5, 1, 0, (nI 0)), (1, 4, 1, 0, (nI 0)), (1, 3, 1, 0, (-1)), (1, 2, 1, 0, (nI 0)), (2, 31, 0, 300, (nI 0)), (1, 33, 0, 0, (nI 0)), (1, 32, 0, 0, (-1)), (1, 30, 0, 0, (nI 0)), (1, 29, 0, 0, (nI 0)), (1, 28, 0, 0, (-1)), (1, 27, 0, 0, (nI 0)), (1, 26, 0, 0, (nI 0)), (1, 25, 0, 0, (nI 0)), (1, 24, 0, 0, (nI 0)), (1, 23, 0, 0, (nI 0)), (1, 22, 0, 0, (nI 0)), (1, 21, 0, 0, (nI 0)), (1, 20, 0, 0, (nI 0)), (2, 12, 0, 16, ((-1))), (2, 16, 0, 16, (nI 0)), (2, 17, 0, 16, ((-1))), (2, 18, 0, 16, (nI 0)), (2, 19, 0, 16, (nI 0)), (1, 15, 0, 0, (nI 0)), (1, 14, 0, 0, (nI 0)), (1, 11, 0, 0, (nI 0)), (1, 10, 0, 0, (nI 0)), (2, 9, 0, 300, (nI 0)), (1, 8, 0, 0, (nI 0)), (1, 7, 0, 0, (nI 0)), (1, 6, 0, 0, (nI 7)), (1, 5, 0, 0, (nI 0)), (1, 4, 0, 0, (nI 0)), (1, 3, 0, 0, (-1)), (1, 2, 0, 0, (nI 0)), (2, 1, 0, 27, (nI 0)), (0, 0, 1200, 0, (nI 0))] h)) ok_X12_clear (mi 47 rfl) rfl (m_X12_forgetRounds2 hst hs) rfl (kq apq (fk hs 0 rfl)) rfl rfl (by decide) (by decide) (Nat.le_of_ble_eq_true rfl) (by decide) ?_
  refine ex_aload_n ok_X12_clear (mi 48 rfl) rfl ?_
  refine ex_getRx ok_X12_clear (mi 49 rfl) rfl rfl (kq apq (fk hs 0 rfl)) (rq apq (fr hs 25 rfl)) (kq apq (fk hs 26 rfl)) (by decide) ?_
  refine ex_iload_n ok_X12_clear (mi 50 rfl) rfl ?_
  refine ex_iconst ok_X12_clear (mi 51 rfl) ?_
  refine ex_iasta (a := 26) (j := 2) (v := (nI 0)) ok_X12_clear (mi 52 rfl) (fk hs 26 rfl) (fn hs 26 rfl) (pk_in 2 3 (by decide)) (by decide) (by decide) ?_
  refine ex_aload_n ok_X12_clear (mi 53 rfl) rfl ?_
  refine ex_getRx ok_X12_clear (mi 54 rfl) rfl rfl (kq apq (fk hs 0 rfl)) (rq apq (fr hs 26 rfl)) (kq apq (fk hs 27 rfl)) (by decide) ?_
  refine ex_iload_n ok_X12_clear (mi 55 rfl) rfl ?_
  refine ex_iconst ok_X12_clear (mi 56 rfl) ?_
  refine ex_iasta (a := 27) (j := 2) (v := (nI 0)) ok_X12_clear (mi 57 rfl) (fk hs 27 rfl) (fn hs 27 rfl) (pk_in 2 3 (by decide)) (by decide) (by decide) ?_
  refine ex_aload_n ok_X12_clear (mi 58 rfl) rfl ?_
  refine ex_getRx ok_X12_clear (mi 59 rfl) rfl rfl (kq apq (fk hs 0 rfl)) (rq apq (fr hs 27 rfl)) (kq apq (fk hs 28 rfl)) (by decide) ?_
  refine ex_iload_n ok_X12_clear (mi 60 rfl) rfl ?_
  refine ex_iconst ok_X12_clear (mi 61 rfl) ?_
  refine ex_iasta (a := 28) (j := 2) (v := (-1)) ok_X12_clear (mi 62 rfl) (fk hs 28 rfl) (fn hs 28 rfl) (pk_in 2 3 (by decide)) (by decide) (by decide) ?_
  refine ex_aload_n ok_X12_clear (mi 63 rfl) rfl ?_
  refine ex_iload_n ok_X12_clear (mi 64 rfl) rfl ?_
  refine ex_callVr (As := [_]) (v := none) (g1 := (ap x [(2, 31, 600, 900, (nI 0)), (1, 33, 2, 0, (nI 0)), (1, 32, 2, 0, (-1)), (1, 30, 2, 0, (nI 0)), (1, 29, 2, 0, (nI 0)), (1, 28, 2, 0, (-1)), (1, 27, 2, 0, (nI 0)), (1, 26, 2, 0, (nI 0)), (1, 25, 2, 0, (nI 0)), (1, 24, 2, 0, (nI 0)), (1, 23, 2, 0, (nI 0)), (1, 22, 2, 0, (nI 0)), (1, 21, 2, 0, (nI 0)), (1, 20, 2, 0, (nI 0)), (2, 12, 32, 48, ((-1))), (2, 16, 32, 48, (nI 0)), (2, 17, 32, 48, ((-1))), (2, 18, 32, 48, (nI 0)), (2, 19, 32, 48, (nI 0)), (1, 15, 2, 0, (nI 0)), (1, 14, 2, 0, (nI 0)), (1, 11, 2, 0, (nI 0)), (1, 10, 2, 0, (nI 0)), (2, 9, 600, 900, (nI 0)), (1, 8, 2, 0, (nI 0)), (1, 7, 2, 0, (nI 0)), (1, 6, 2, 0, (nI 7)), (1, 5, 2, 0, (nI 0)), (1, 4, 2, 0, (nI 0)), (1, 3, 2, 0, (-1)), (1, 2, 2, 0, (nI 0)), (2, 31, 300, 600, (nI 0)), (1, 33, 1, 0, (nI 0)), (1, 32, 1, 0, (-1)), (1, 30, 1, 0, (nI 0)), (1, 29, 1, 0, (nI 0)), (1, 28, 1, 0, (-1)), (1, 27, 1, 0, (nI 0)), (1, 26, 1, 0, (nI 0)), (1, 25, 1, 0, (nI 0)), (1, 24, 1, 0, (nI 0)), (1, 23, 1, 0, (nI 0)), (1, 22, 1, 0, (nI 0)), (1, 21, 1, 0, (nI 0)), (1, 20, 1, 0, (nI 0)), (2, 12, 16, 32, ((-1))), (2, 16, 16, 32, (nI 0)), (2, 17, 16, 32, ((-1))), (2, 18, 16, 32, (nI 0)), (2, 19, 16, 32, (nI 0)), (1, 15, 1, 0, (nI 0)), (1, 14, 1, 0, (nI 0)), (1, 11, 1, 0, (nI 0)), (1, 10, 1, 0, (nI 0)), (2, 9, 300, 600, (nI 0)), (1, 8, 1, 0, (nI 0)), (1, 7, 1, 0, (nI 0)), (1, 6, 1, 0, (nI 7)), (1, 5, 1, 0, (nI 0)), (1, 4, 1, 0, (nI 0)), (1, 3, 1, 0, (-1)), (1, 2, 1, 0, (nI 0)), (2, 31, 0, 300, (nI 0)), (1, 33, 0, 0, (nI 0)), (1, 32, 0, 0, (-1)), (1, 30, 0, 0, (nI 0)), (1, 29, 0, 0, (nI 0)), (1, 28, 0, 0, (-1)), (1, 27, 0, 0, (nI 0)), (1, 26, 0, 0, (nI 0)), (1, 25, 0, 0, (nI 0)), (1, 24, 0, 0, (nI 0)), (1, 23, 0, 0, (nI 0)), (1, 22, 0, 0, (nI 0)), (1, 21, 0, 0, (nI 0)), (1, 20, 0, 0, (nI 0)), (2, 12, 0, 16, ((-1))), (2, 16, 0, 16, (nI 0)), (2, 17, 0, 16, ((-1))), (2, 18, 0, 16, (nI 0)), (2, 19, 0, 16, (nI 0)), (1, 15, 0, 0, (nI 0)), (1, 14, 0, 0, (nI 0)), (1, 11, 0, 0, (nI 0)), (1, 10, 0, 0, (nI 0)), (2, 9, 0, 300, (nI 0)), (1, 8, 0, 0, (nI 0)), (1, 7, 0, 0, (nI 0)), (1, 6, 0, 0, (nI 7)), (1, 5, 0, 0, (nI 0)), (1, 4, 0, 0, (nI 0)), (1, 3, 0, 0, (-1)), (1, 2, 0, 0, (nI 0)), (2, 1, 0, 27, (nI 0)), (0, 0, 1200, 0, (nI 0))] h)) ok_X12_clear (mi 65 rfl) rfl (m_X12_forgetReform2 hst hs) rfl (kq apq (fk hs 0 rfl)) rfl rfl (by decide) (by decide) (Nat.le_of_ble_eq_true rfl) (by decide) ?_
  refine ex_iincx (w := (nI 3)) ok_X12_clear (mi 66 rfl) rfl (by decide) ?_
  refine ex_goto (tgt := 28) ok_X12_clear (mi 67 rfl) rfl ?_
  refine ex_ls (ls' := [(0, .ref x), (1, .int (nI 3))]) ⟨rfl, rfl, trivial⟩ ?_
  refine ex_iload_n ok_X12_clear (mi 17 rfl) rfl ?_
  refine ex_iconst ok_X12_clear (mi 18 rfl) ?_
  refine ex_icmp_ge (tgt := 106) ok_X12_clear (mi 19 rfl) rfl (fun _ => ?_) (fun hn => absurd (by decide) hn)
  refine ex_iconst ok_X12_clear (mi 68 rfl) ?_
  refine ex_istore_n ok_X12_clear (mi 69 rfl) ?_
  refine ex_iload_n ok_X12_clear (mi 70 rfl) rfl ?_
  refine ex_bipush ok_X12_clear (mi 71 rfl) ?_
  refine ex_icmp_ge (tgt := 204) ok_X12_clear (mi 72 rfl) rfl (fun hn => absurd hn (by decide)) (fun _ => ?_)
  refine ex_aload_n ok_X12_clear (mi 73 rfl) rfl ?_
  refine ex_getRx ok_X12_clear (mi 74 rfl) rfl rfl (kq apq (fk hs 0 rfl)) (rq apq (fr hs 33 rfl)) (kq apq (fk hs 34 rfl)) (by decide) ?_
  refine ex_iload_n ok_X12_clear (mi 75 rfl) rfl ?_
  refine ex_iload_n ok_X12_clear (mi 76 rfl) rfl ?_
  refine ex_iconst ok_X12_clear (mi 77 rfl) ?_
  refine ex_icmp_ge (tgt := 128) ok_X12_clear (mi 78 rfl) rfl (fun hn => absurd hn (by decide)) (fun _ => ?_)
  refine ex_iconst ok_X12_clear (mi 79 rfl) ?_
  refine ex_goto (tgt := 129) ok_X12_clear (mi 80 rfl) rfl ?_
  refine ex_iasta (a := 34) (j := 0) (v := (nI 2)) ok_X12_clear (mi 82 rfl) (fk hs 34 rfl) (fn hs 34 rfl) (pk_in 0 9 (by decide)) (by decide) (by decide) ?_
  refine ex_aload_n ok_X12_clear (mi 83 rfl) rfl ?_
  refine ex_getRx ok_X12_clear (mi 84 rfl) rfl rfl (kq apq (fk hs 0 rfl)) (rq apq (fr hs 34 rfl)) (kq apq (fk hs 35 rfl)) (by decide) ?_
  refine ex_iload_n ok_X12_clear (mi 85 rfl) rfl ?_
  refine ex_iload_n ok_X12_clear (mi 86 rfl) rfl ?_
  refine ex_iconst ok_X12_clear (mi 87 rfl) ?_
  refine ex_icmp_ge (tgt := 144) ok_X12_clear (mi 88 rfl) rfl (fun hn => absurd hn (by decide)) (fun _ => ?_)
  refine ex_iconst ok_X12_clear (mi 89 rfl) ?_
  refine ex_goto (tgt := 145) ok_X12_clear (mi 90 rfl) rfl ?_
  refine ex_iasta (a := 35) (j := 0) (v := (nI 0)) ok_X12_clear (mi 92 rfl) (fk hs 35 rfl) (fn hs 35 rfl) (pk_in 0 9 (by decide)) (by decide) (by decide) ?_
  refine ex_aload_n ok_X12_clear (mi 93 rfl) rfl ?_
  refine ex_getRx ok_X12_clear (mi 94 rfl) rfl rfl (kq apq (fk hs 0 rfl)) (rq apq (fr hs 35 rfl)) (kq apq (fk hs 36 rfl)) (by decide) ?_
  refine ex_iload_n ok_X12_clear (mi 95 rfl) rfl ?_
  refine ex_iload_n ok_X12_clear (mi 96 rfl) rfl ?_
  refine ex_iconst ok_X12_clear (mi 97 rfl) ?_
  refine ex_icmp_ge (tgt := 161) ok_X12_clear (mi 98 rfl) rfl (fun hn => absurd hn (by decide)) (fun _ => ?_)
  refine ex_bipush ok_X12_clear (mi 99 rfl) ?_
  refine ex_goto (tgt := 162) ok_X12_clear (mi 100 rfl) rfl ?_
  refine ex_iasta (a := 36) (j := 0) (v := (nI 7)) ok_X12_clear (mi 102 rfl) (fk hs 36 rfl) (fn hs 36 rfl) (pk_in 0 9 (by decide)) (by decide) (by decide) ?_
  refine ex_aload_n ok_X12_clear (mi 103 rfl) rfl ?_
  refine ex_getRx ok_X12_clear (mi 104 rfl) rfl rfl (kq apq (fk hs 0 rfl)) (rq apq (fr hs 36 rfl)) (kq apq (fk hs 37 rfl)) (by decide) ?_
  refine ex_iload_n ok_X12_clear (mi 105 rfl) rfl ?_
  refine ex_iconst ok_X12_clear (mi 106 rfl) ?_
  refine ex_iasta (a := 37) (j := 0) (v := (nI 0)) ok_X12_clear (mi 107 rfl) (fk hs 37 rfl) (fn hs 37 rfl) (pk_in 0 9 (by decide)) (by decide) (by decide) ?_
  refine ex_aload_n ok_X12_clear (mi 108 rfl) rfl ?_
  refine ex_getRx ok_X12_clear (mi 109 rfl) rfl rfl (kq apq (fk hs 0 rfl)) (rq apq (fr hs 38 rfl)) (kq apq (fk hs 39 rfl)) (by decide) ?_
  refine ex_iload_n ok_X12_clear (mi 110 rfl) rfl ?_
  refine ex_iconst ok_X12_clear (mi 111 rfl) ?_
  refine ex_iasta (a := 39) (j := 0) (v := (-1)) ok_X12_clear (mi 112 rfl) (fk hs 39 rfl) (fn hs 39 rfl) (pk_in 0 9 (by decide)) (by decide) (by decide) ?_
  refine ex_aload_n ok_X12_clear (mi 113 rfl) rfl ?_
  refine ex_getRx ok_X12_clear (mi 114 rfl) rfl rfl (kq apq (fk hs 0 rfl)) (rq apq (fr hs 39 rfl)) (kq apq (fk hs 40 rfl)) (by decide) ?_
  refine ex_iload_n ok_X12_clear (mi 115 rfl) rfl ?_
  refine ex_iconst ok_X12_clear (mi 116 rfl) ?_
  refine ex_iasta (a := 40) (j := 0) (v := (-1)) ok_X12_clear (mi 117 rfl) (fk hs 40 rfl) (fn hs 40 rfl) (pk_in 0 9 (by decide)) (by decide) (by decide) ?_
  refine ex_aload_n ok_X12_clear (mi 118 rfl) rfl ?_
  refine ex_getRx ok_X12_clear (mi 119 rfl) rfl rfl (kq apq (fk hs 0 rfl)) (rq apq (fr hs 40 rfl)) (kq apq (fk hs 41 rfl)) (by decide) ?_
  refine ex_iload_n ok_X12_clear (mi 120 rfl) rfl ?_
  refine ex_iconst ok_X12_clear (mi 121 rfl) ?_
  refine ex_iasta (a := 41) (j := 0) (v := (nI 0)) ok_X12_clear (mi 122 rfl) (fk hs 41 rfl) (fn hs 41 rfl) (pk_in 0 9 (by decide)) (by decide) (by decide) ?_
  refine ex_aload_n ok_X12_clear (mi 123 rfl) rfl ?_
  refine ex_getRx ok_X12_clear (mi 124 rfl) rfl rfl (kq apq (fk hs 0 rfl)) (rq apq (fr hs 41 rfl)) (kq apq (fk hs 42 rfl)) (by decide) ?_
  refine ex_iload_n ok_X12_clear (mi 125 rfl) rfl ?_
  refine ex_iconst ok_X12_clear (mi 126 rfl) ?_
  refine ex_iasta (a := 42) (j := 0) (v := (nI 0)) ok_X12_clear (mi 127 rfl) (fk hs 42 rfl) (fn hs 42 rfl) (pk_in 0 9 (by decide)) (by decide) (by decide) ?_
  refine ex_iincx (w := (nI 1)) ok_X12_clear (mi 128 rfl) rfl (by decide) ?_
  refine ex_goto (tgt := 108) ok_X12_clear (mi 129 rfl) rfl ?_
  refine ex_ls (ls' := [(0, .ref x), (1, .int (nI 1))]) ⟨rfl, rfl, trivial⟩ ?_
  refine ex_iload_n ok_X12_clear (mi 70 rfl) rfl ?_
  refine ex_bipush ok_X12_clear (mi 71 rfl) ?_
  refine ex_icmp_ge (tgt := 204) ok_X12_clear (mi 72 rfl) rfl (fun hn => absurd hn (by decide)) (fun _ => ?_)
  refine ex_aload_n ok_X12_clear (mi 73 rfl) rfl ?_
  refine ex_getRx ok_X12_clear (mi 74 rfl) rfl rfl (kq apq (fk hs 0 rfl)) (rq apq (fr hs 33 rfl)) (kq apq (fk hs 34 rfl)) (by decide) ?_
  refine ex_iload_n ok_X12_clear (mi 75 rfl) rfl ?_
  refine ex_iload_n ok_X12_clear (mi 76 rfl) rfl ?_
  refine ex_iconst ok_X12_clear (mi 77 rfl) ?_
  refine ex_icmp_ge (tgt := 128) ok_X12_clear (mi 78 rfl) rfl (fun hn => absurd hn (by decide)) (fun _ => ?_)
  refine ex_iconst ok_X12_clear (mi 79 rfl) ?_
  refine ex_goto (tgt := 129) ok_X12_clear (mi 80 rfl) rfl ?_
  refine ex_iasta (a := 34) (j := 1) (v := (nI 2)) ok_X12_clear (mi 82 rfl) (fk hs 34 rfl) (fn hs 34 rfl) (pk_in 1 9 (by decide)) (by decide) (by decide) ?_
  refine ex_aload_n ok_X12_clear (mi 83 rfl) rfl ?_
  refine ex_getRx ok_X12_clear (mi 84 rfl) rfl rfl (kq apq (fk hs 0 rfl)) (rq apq (fr hs 34 rfl)) (kq apq (fk hs 35 rfl)) (by decide) ?_
  refine ex_iload_n ok_X12_clear (mi 85 rfl) rfl ?_
  refine ex_iload_n ok_X12_clear (mi 86 rfl) rfl ?_
  refine ex_iconst ok_X12_clear (mi 87 rfl) ?_
  refine ex_icmp_ge (tgt := 144) ok_X12_clear (mi 88 rfl) rfl (fun hn => absurd hn (by decide)) (fun _ => ?_)
  refine ex_iconst ok_X12_clear (mi 89 rfl) ?_
  refine ex_goto (tgt := 145) ok_X12_clear (mi 90 rfl) rfl ?_
  refine ex_iasta (a := 35) (j := 1) (v := (nI 0)) ok_X12_clear (mi 92 rfl) (fk hs 35 rfl) (fn hs 35 rfl) (pk_in 1 9 (by decide)) (by decide) (by decide) ?_
  refine ex_aload_n ok_X12_clear (mi 93 rfl) rfl ?_
  refine ex_getRx ok_X12_clear (mi 94 rfl) rfl rfl (kq apq (fk hs 0 rfl)) (rq apq (fr hs 35 rfl)) (kq apq (fk hs 36 rfl)) (by decide) ?_
  refine ex_iload_n ok_X12_clear (mi 95 rfl) rfl ?_
  refine ex_iload_n ok_X12_clear (mi 96 rfl) rfl ?_
  refine ex_iconst ok_X12_clear (mi 97 rfl) ?_
  refine ex_icmp_ge (tgt := 161) ok_X12_clear (mi 98 rfl) rfl (fun hn => absurd hn (by decide)) (fun _ => ?_)
  refine ex_bipush ok_X12_clear (mi 99 rfl) ?_
  refine ex_goto (tgt := 162) ok_X12_clear (mi 100 rfl) rfl ?_
  refine ex_iasta (a := 36) (j := 1) (v := (nI 7)) ok_X12_clear (mi 102 rfl) (fk hs 36 rfl) (fn hs 36 rfl) (pk_in 1 9 (by decide)) (by decide) (by decide) ?_
  refine ex_aload_n ok_X12_clear (mi 103 rfl) rfl ?_
  refine ex_getRx ok_X12_clear (mi 104 rfl) rfl rfl (kq apq (fk hs 0 rfl)) (rq apq (fr hs 36 rfl)) (kq apq (fk hs 37 rfl)) (by decide) ?_
  refine ex_iload_n ok_X12_clear (mi 105 rfl) rfl ?_
  refine ex_iconst ok_X12_clear (mi 106 rfl) ?_
  refine ex_iasta (a := 37) (j := 1) (v := (nI 0)) ok_X12_clear (mi 107 rfl) (fk hs 37 rfl) (fn hs 37 rfl) (pk_in 1 9 (by decide)) (by decide) (by decide) ?_
  refine ex_aload_n ok_X12_clear (mi 108 rfl) rfl ?_
  refine ex_getRx ok_X12_clear (mi 109 rfl) rfl rfl (kq apq (fk hs 0 rfl)) (rq apq (fr hs 38 rfl)) (kq apq (fk hs 39 rfl)) (by decide) ?_
  refine ex_iload_n ok_X12_clear (mi 110 rfl) rfl ?_
  refine ex_iconst ok_X12_clear (mi 111 rfl) ?_
  refine ex_iasta (a := 39) (j := 1) (v := (-1)) ok_X12_clear (mi 112 rfl) (fk hs 39 rfl) (fn hs 39 rfl) (pk_in 1 9 (by decide)) (by decide) (by decide) ?_
  refine ex_aload_n ok_X12_clear (mi 113 rfl) rfl ?_
  refine ex_getRx ok_X12_clear (mi 114 rfl) rfl rfl (kq apq (fk hs 0 rfl)) (rq apq (fr hs 39 rfl)) (kq apq (fk hs 40 rfl)) (by decide) ?_
  refine ex_iload_n ok_X12_clear (mi 115 rfl) rfl ?_
  refine ex_iconst ok_X12_clear (mi 116 rfl) ?_
  refine ex_iasta (a := 40) (j := 1) (v := (-1)) ok_X12_clear (mi 117 rfl) (fk hs 40 rfl) (fn hs 40 rfl) (pk_in 1 9 (by decide)) (by decide) (by decide) ?_
  refine ex_aload_n ok_X12_clear (mi 118 rfl) rfl ?_
  refine ex_getRx ok_X12_clear (mi 119 rfl) rfl rfl (kq apq (fk hs 0 rfl)) (rq apq (fr hs 40 rfl)) (kq apq (fk hs 41 rfl)) (by decide) ?_
  refine ex_iload_n ok_X12_clear (mi 120 rfl) rfl ?_
  refine ex_iconst ok_X12_clear (mi 121 rfl) ?_
  refine ex_iasta (a := 41) (j := 1) (v := (nI 0)) ok_X12_clear (mi 122 rfl) (fk hs 41 rfl) (fn hs 41 rfl) (pk_in 1 9 (by decide)) (by decide) (by decide) ?_
  refine ex_aload_n ok_X12_clear (mi 123 rfl) rfl ?_
  refine ex_getRx ok_X12_clear (mi 124 rfl) rfl rfl (kq apq (fk hs 0 rfl)) (rq apq (fr hs 41 rfl)) (kq apq (fk hs 42 rfl)) (by decide) ?_
  refine ex_iload_n ok_X12_clear (mi 125 rfl) rfl ?_
  refine ex_iconst ok_X12_clear (mi 126 rfl) ?_
  refine ex_iasta (a := 42) (j := 1) (v := (nI 0)) ok_X12_clear (mi 127 rfl) (fk hs 42 rfl) (fn hs 42 rfl) (pk_in 1 9 (by decide)) (by decide) (by decide) ?_
  refine ex_iincx (w := (nI 2)) ok_X12_clear (mi 128 rfl) rfl (by decide) ?_
  refine ex_goto (tgt := 108) ok_X12_clear (mi 129 rfl) rfl ?_
  refine ex_ls (ls' := [(0, .ref x), (1, .int (nI 2))]) ⟨rfl, rfl, trivial⟩ ?_
  refine ex_iload_n ok_X12_clear (mi 70 rfl) rfl ?_
  refine ex_bipush ok_X12_clear (mi 71 rfl) ?_
  refine ex_icmp_ge (tgt := 204) ok_X12_clear (mi 72 rfl) rfl (fun hn => absurd hn (by decide)) (fun _ => ?_)
  refine ex_aload_n ok_X12_clear (mi 73 rfl) rfl ?_
  refine ex_getRx ok_X12_clear (mi 74 rfl) rfl rfl (kq apq (fk hs 0 rfl)) (rq apq (fr hs 33 rfl)) (kq apq (fk hs 34 rfl)) (by decide) ?_
  refine ex_iload_n ok_X12_clear (mi 75 rfl) rfl ?_
  refine ex_iload_n ok_X12_clear (mi 76 rfl) rfl ?_
  refine ex_iconst ok_X12_clear (mi 77 rfl) ?_
  refine ex_icmp_ge (tgt := 128) ok_X12_clear (mi 78 rfl) rfl (fun hn => absurd hn (by decide)) (fun _ => ?_)
  refine ex_iconst ok_X12_clear (mi 79 rfl) ?_
  refine ex_goto (tgt := 129) ok_X12_clear (mi 80 rfl) rfl ?_
  refine ex_iasta (a := 34) (j := 2) (v := (nI 2)) ok_X12_clear (mi 82 rfl) (fk hs 34 rfl) (fn hs 34 rfl) (pk_in 2 9 (by decide)) (by decide) (by decide) ?_
  refine ex_aload_n ok_X12_clear (mi 83 rfl) rfl ?_
  refine ex_getRx ok_X12_clear (mi 84 rfl) rfl rfl (kq apq (fk hs 0 rfl)) (rq apq (fr hs 34 rfl)) (kq apq (fk hs 35 rfl)) (by decide) ?_
  refine ex_iload_n ok_X12_clear (mi 85 rfl) rfl ?_
  refine ex_iload_n ok_X12_clear (mi 86 rfl) rfl ?_
  refine ex_iconst ok_X12_clear (mi 87 rfl) ?_
  refine ex_icmp_ge (tgt := 144) ok_X12_clear (mi 88 rfl) rfl (fun hn => absurd hn (by decide)) (fun _ => ?_)
  refine ex_iconst ok_X12_clear (mi 89 rfl) ?_
  refine ex_goto (tgt := 145) ok_X12_clear (mi 90 rfl) rfl ?_
  refine ex_iasta (a := 35) (j := 2) (v := (nI 0)) ok_X12_clear (mi 92 rfl) (fk hs 35 rfl) (fn hs 35 rfl) (pk_in 2 9 (by decide)) (by decide) (by decide) ?_
  refine ex_aload_n ok_X12_clear (mi 93 rfl) rfl ?_
  refine ex_getRx ok_X12_clear (mi 94 rfl) rfl rfl (kq apq (fk hs 0 rfl)) (rq apq (fr hs 35 rfl)) (kq apq (fk hs 36 rfl)) (by decide) ?_
  refine ex_iload_n ok_X12_clear (mi 95 rfl) rfl ?_
  refine ex_iload_n ok_X12_clear (mi 96 rfl) rfl ?_
  refine ex_iconst ok_X12_clear (mi 97 rfl) ?_
  refine ex_icmp_ge (tgt := 161) ok_X12_clear (mi 98 rfl) rfl (fun hn => absurd hn (by decide)) (fun _ => ?_)
  refine ex_bipush ok_X12_clear (mi 99 rfl) ?_
  refine ex_goto (tgt := 162) ok_X12_clear (mi 100 rfl) rfl ?_
  refine ex_iasta (a := 36) (j := 2) (v := (nI 7)) ok_X12_clear (mi 102 rfl) (fk hs 36 rfl) (fn hs 36 rfl) (pk_in 2 9 (by decide)) (by decide) (by decide) ?_
  refine ex_aload_n ok_X12_clear (mi 103 rfl) rfl ?_
  refine ex_getRx ok_X12_clear (mi 104 rfl) rfl rfl (kq apq (fk hs 0 rfl)) (rq apq (fr hs 36 rfl)) (kq apq (fk hs 37 rfl)) (by decide) ?_
  refine ex_iload_n ok_X12_clear (mi 105 rfl) rfl ?_
  refine ex_iconst ok_X12_clear (mi 106 rfl) ?_
  refine ex_iasta (a := 37) (j := 2) (v := (nI 0)) ok_X12_clear (mi 107 rfl) (fk hs 37 rfl) (fn hs 37 rfl) (pk_in 2 9 (by decide)) (by decide) (by decide) ?_
  refine ex_aload_n ok_X12_clear (mi 108 rfl) rfl ?_
  refine ex_getRx ok_X12_clear (mi 109 rfl) rfl rfl (kq apq (fk hs 0 rfl)) (rq apq (fr hs 38 rfl)) (kq apq (fk hs 39 rfl)) (by decide) ?_
  refine ex_iload_n ok_X12_clear (mi 110 rfl) rfl ?_
  refine ex_iconst ok_X12_clear (mi 111 rfl) ?_
  refine ex_iasta (a := 39) (j := 2) (v := (-1)) ok_X12_clear (mi 112 rfl) (fk hs 39 rfl) (fn hs 39 rfl) (pk_in 2 9 (by decide)) (by decide) (by decide) ?_
  refine ex_aload_n ok_X12_clear (mi 113 rfl) rfl ?_
  refine ex_getRx ok_X12_clear (mi 114 rfl) rfl rfl (kq apq (fk hs 0 rfl)) (rq apq (fr hs 39 rfl)) (kq apq (fk hs 40 rfl)) (by decide) ?_
  refine ex_iload_n ok_X12_clear (mi 115 rfl) rfl ?_
  refine ex_iconst ok_X12_clear (mi 116 rfl) ?_
  refine ex_iasta (a := 40) (j := 2) (v := (-1)) ok_X12_clear (mi 117 rfl) (fk hs 40 rfl) (fn hs 40 rfl) (pk_in 2 9 (by decide)) (by decide) (by decide) ?_
  refine ex_aload_n ok_X12_clear (mi 118 rfl) rfl ?_
  refine ex_getRx ok_X12_clear (mi 119 rfl) rfl rfl (kq apq (fk hs 0 rfl)) (rq apq (fr hs 40 rfl)) (kq apq (fk hs 41 rfl)) (by decide) ?_
  refine ex_iload_n ok_X12_clear (mi 120 rfl) rfl ?_
  refine ex_iconst ok_X12_clear (mi 121 rfl) ?_
  refine ex_iasta (a := 41) (j := 2) (v := (nI 0)) ok_X12_clear (mi 122 rfl) (fk hs 41 rfl) (fn hs 41 rfl) (pk_in 2 9 (by decide)) (by decide) (by decide) ?_
  refine ex_aload_n ok_X12_clear (mi 123 rfl) rfl ?_
  refine ex_getRx ok_X12_clear (mi 124 rfl) rfl rfl (kq apq (fk hs 0 rfl)) (rq apq (fr hs 41 rfl)) (kq apq (fk hs 42 rfl)) (by decide) ?_
  refine ex_iload_n ok_X12_clear (mi 125 rfl) rfl ?_
  refine ex_iconst ok_X12_clear (mi 126 rfl) ?_
  refine ex_iasta (a := 42) (j := 2) (v := (nI 0)) ok_X12_clear (mi 127 rfl) (fk hs 42 rfl) (fn hs 42 rfl) (pk_in 2 9 (by decide)) (by decide) (by decide) ?_
  refine ex_iincx (w := (nI 3)) ok_X12_clear (mi 128 rfl) rfl (by decide) ?_
  refine ex_goto (tgt := 108) ok_X12_clear (mi 129 rfl) rfl ?_
  refine ex_ls (ls' := [(0, .ref x), (1, .int (nI 3))]) ⟨rfl, rfl, trivial⟩ ?_
  refine ex_iload_n ok_X12_clear (mi 70 rfl) rfl ?_
  refine ex_bipush ok_X12_clear (mi 71 rfl) ?_
  refine ex_icmp_ge (tgt := 204) ok_X12_clear (mi 72 rfl) rfl (fun hn => absurd hn (by decide)) (fun _ => ?_)
  refine ex_aload_n ok_X12_clear (mi 73 rfl) rfl ?_
  refine ex_getRx ok_X12_clear (mi 74 rfl) rfl rfl (kq apq (fk hs 0 rfl)) (rq apq (fr hs 33 rfl)) (kq apq (fk hs 34 rfl)) (by decide) ?_
  refine ex_iload_n ok_X12_clear (mi 75 rfl) rfl ?_
  refine ex_iload_n ok_X12_clear (mi 76 rfl) rfl ?_
  refine ex_iconst ok_X12_clear (mi 77 rfl) ?_
  refine ex_icmp_ge (tgt := 128) ok_X12_clear (mi 78 rfl) rfl (fun _ => ?_) (fun hn => absurd (by decide) hn)
  refine ex_iconst ok_X12_clear (mi 81 rfl) ?_
  refine ex_iasta (a := 34) (j := 3) (v := (nI 0)) ok_X12_clear (mi 82 rfl) (fk hs 34 rfl) (fn hs 34 rfl) (pk_in 3 9 (by decide)) (by decide) (by decide) ?_
  refine ex_aload_n ok_X12_clear (mi 83 rfl) rfl ?_
  refine ex_getRx ok_X12_clear (mi 84 rfl) rfl rfl (kq apq (fk hs 0 rfl)) (rq apq (fr hs 34 rfl)) (kq apq (fk hs 35 rfl)) (by decide) ?_
  refine ex_iload_n ok_X12_clear (mi 85 rfl) rfl ?_
  refine ex_iload_n ok_X12_clear (mi 86 rfl) rfl ?_
  refine ex_iconst ok_X12_clear (mi 87 rfl) ?_
  refine ex_icmp_ge (tgt := 144) ok_X12_clear (mi 88 rfl) rfl (fun _ => ?_) (fun hn => absurd (by decide) hn)
  refine ex_iconst ok_X12_clear (mi 91 rfl) ?_
  refine ex_iasta (a := 35) (j := 3) (v := (-1)) ok_X12_clear (mi 92 rfl) (fk hs 35 rfl) (fn hs 35 rfl) (pk_in 3 9 (by decide)) (by decide) (by decide) ?_
  refine ex_aload_n ok_X12_clear (mi 93 rfl) rfl ?_
  refine ex_getRx ok_X12_clear (mi 94 rfl) rfl rfl (kq apq (fk hs 0 rfl)) (rq apq (fr hs 35 rfl)) (kq apq (fk hs 36 rfl)) (by decide) ?_
  refine ex_iload_n ok_X12_clear (mi 95 rfl) rfl ?_
  refine ex_iload_n ok_X12_clear (mi 96 rfl) rfl ?_
  refine ex_iconst ok_X12_clear (mi 97 rfl) ?_
  refine ex_icmp_ge (tgt := 161) ok_X12_clear (mi 98 rfl) rfl (fun _ => ?_) (fun hn => absurd (by decide) hn)
  refine ex_iconst ok_X12_clear (mi 101 rfl) ?_
  refine ex_iasta (a := 36) (j := 3) (v := (nI 0)) ok_X12_clear (mi 102 rfl) (fk hs 36 rfl) (fn hs 36 rfl) (pk_in 3 9 (by decide)) (by decide) (by decide) ?_
  refine ex_aload_n ok_X12_clear (mi 103 rfl) rfl ?_
  refine ex_getRx ok_X12_clear (mi 104 rfl) rfl rfl (kq apq (fk hs 0 rfl)) (rq apq (fr hs 36 rfl)) (kq apq (fk hs 37 rfl)) (by decide) ?_
  refine ex_iload_n ok_X12_clear (mi 105 rfl) rfl ?_
  refine ex_iconst ok_X12_clear (mi 106 rfl) ?_
  refine ex_iasta (a := 37) (j := 3) (v := (nI 0)) ok_X12_clear (mi 107 rfl) (fk hs 37 rfl) (fn hs 37 rfl) (pk_in 3 9 (by decide)) (by decide) (by decide) ?_
  refine ex_aload_n ok_X12_clear (mi 108 rfl) rfl ?_
  refine ex_getRx ok_X12_clear (mi 109 rfl) rfl rfl (kq apq (fk hs 0 rfl)) (rq apq (fr hs 38 rfl)) (kq apq (fk hs 39 rfl)) (by decide) ?_
  refine ex_iload_n ok_X12_clear (mi 110 rfl) rfl ?_
  refine ex_iconst ok_X12_clear (mi 111 rfl) ?_
  refine ex_iasta (a := 39) (j := 3) (v := (-1)) ok_X12_clear (mi 112 rfl) (fk hs 39 rfl) (fn hs 39 rfl) (pk_in 3 9 (by decide)) (by decide) (by decide) ?_
  refine ex_aload_n ok_X12_clear (mi 113 rfl) rfl ?_
  refine ex_getRx ok_X12_clear (mi 114 rfl) rfl rfl (kq apq (fk hs 0 rfl)) (rq apq (fr hs 39 rfl)) (kq apq (fk hs 40 rfl)) (by decide) ?_
  refine ex_iload_n ok_X12_clear (mi 115 rfl) rfl ?_
  refine ex_iconst ok_X12_clear (mi 116 rfl) ?_
  refine ex_iasta (a := 40) (j := 3) (v := (-1)) ok_X12_clear (mi 117 rfl) (fk hs 40 rfl) (fn hs 40 rfl) (pk_in 3 9 (by decide)) (by decide) (by decide) ?_
  refine ex_aload_n ok_X12_clear (mi 118 rfl) rfl ?_
  refine ex_getRx ok_X12_clear (mi 119 rfl) rfl rfl (kq apq (fk hs 0 rfl)) (rq apq (fr hs 40 rfl)) (kq apq (fk hs 41 rfl)) (by decide) ?_
  refine ex_iload_n ok_X12_clear (mi 120 rfl) rfl ?_
  refine ex_iconst ok_X12_clear (mi 121 rfl) ?_
  refine ex_iasta (a := 41) (j := 3) (v := (nI 0)) ok_X12_clear (mi 122 rfl) (fk hs 41 rfl) (fn hs 41 rfl) (pk_in 3 9 (by decide)) (by decide) (by decide) ?_
  refine ex_aload_n ok_X12_clear (mi 123 rfl) rfl ?_
  refine ex_getRx ok_X12_clear (mi 124 rfl) rfl rfl (kq apq (fk hs 0 rfl)) (rq apq (fr hs 41 rfl)) (kq apq (fk hs 42 rfl)) (by decide) ?_
  refine ex_iload_n ok_X12_clear (mi 125 rfl) rfl ?_
  refine ex_iconst ok_X12_clear (mi 126 rfl) ?_
  refine ex_iasta (a := 42) (j := 3) (v := (nI 0)) ok_X12_clear (mi 127 rfl) (fk hs 42 rfl) (fn hs 42 rfl) (pk_in 3 9 (by decide)) (by decide) (by decide) ?_
  refine ex_iincx (w := (nI 4)) ok_X12_clear (mi 128 rfl) rfl (by decide) ?_
  refine ex_goto (tgt := 108) ok_X12_clear (mi 129 rfl) rfl ?_
  refine ex_ls (ls' := [(0, .ref x), (1, .int (nI 4))]) ⟨rfl, rfl, trivial⟩ ?_
  refine ex_iload_n ok_X12_clear (mi 70 rfl) rfl ?_
  refine ex_bipush ok_X12_clear (mi 71 rfl) ?_
  refine ex_icmp_ge (tgt := 204) ok_X12_clear (mi 72 rfl) rfl (fun hn => absurd hn (by decide)) (fun _ => ?_)
  refine ex_aload_n ok_X12_clear (mi 73 rfl) rfl ?_
  refine ex_getRx ok_X12_clear (mi 74 rfl) rfl rfl (kq apq (fk hs 0 rfl)) (rq apq (fr hs 33 rfl)) (kq apq (fk hs 34 rfl)) (by decide) ?_
  refine ex_iload_n ok_X12_clear (mi 75 rfl) rfl ?_
  refine ex_iload_n ok_X12_clear (mi 76 rfl) rfl ?_
  refine ex_iconst ok_X12_clear (mi 77 rfl) ?_
  refine ex_icmp_ge (tgt := 128) ok_X12_clear (mi 78 rfl) rfl (fun _ => ?_) (fun hn => absurd (by decide) hn)
  refine ex_iconst ok_X12_clear (mi 81 rfl) ?_
  refine ex_iasta (a := 34) (j := 4) (v := (nI 0)) ok_X12_clear (mi 82 rfl) (fk hs 34 rfl) (fn hs 34 rfl) (pk_in 4 9 (by decide)) (by decide) (by decide) ?_
  refine ex_aload_n ok_X12_clear (mi 83 rfl) rfl ?_
  refine ex_getRx ok_X12_clear (mi 84 rfl) rfl rfl (kq apq (fk hs 0 rfl)) (rq apq (fr hs 34 rfl)) (kq apq (fk hs 35 rfl)) (by decide) ?_
  refine ex_iload_n ok_X12_clear (mi 85 rfl) rfl ?_
  refine ex_iload_n ok_X12_clear (mi 86 rfl) rfl ?_
  refine ex_iconst ok_X12_clear (mi 87 rfl) ?_
  refine ex_icmp_ge (tgt := 144) ok_X12_clear (mi 88 rfl) rfl (fun _ => ?_) (fun hn => absurd (by decide) hn)
  refine ex_iconst ok_X12_clear (mi 91 rfl) ?_
  refine ex_iasta (a := 35) (j := 4) (v := (-1)) ok_X12_clear (mi 92 rfl) (fk hs 35 rfl) (fn hs 35 rfl) (pk_in 4 9 (by decide)) (by decide) (by decide) ?_
  refine ex_aload_n ok_X12_clear (mi 93 rfl) rfl ?_
  refine ex_getRx ok_X12_clear (mi 94 rfl) rfl rfl (kq apq (fk hs 0 rfl)) (rq apq (fr hs 35 rfl)) (kq apq (fk hs 36 rfl)) (by decide) ?_
  refine ex_iload_n ok_X12_clear (mi 95 rfl) rfl ?_
  refine ex_iload_n ok_X12_clear (mi 96 rfl) rfl ?_
  refine ex_iconst ok_X12_clear (mi 97 rfl) ?_
  refine ex_icmp_ge (tgt := 161) ok_X12_clear (mi 98 rfl) rfl (fun _ => ?_) (fun hn => absurd (by decide) hn)
  refine ex_iconst ok_X12_clear (mi 101 rfl) ?_
  refine ex_iasta (a := 36) (j := 4) (v := (nI 0)) ok_X12_clear (mi 102 rfl) (fk hs 36 rfl) (fn hs 36 rfl) (pk_in 4 9 (by decide)) (by decide) (by decide) ?_
  refine ex_aload_n ok_X12_clear (mi 103 rfl) rfl ?_
  refine ex_getRx ok_X12_clear (mi 104 rfl) rfl rfl (kq apq (fk hs 0 rfl)) (rq apq (fr hs 36 rfl)) (kq apq (fk hs 37 rfl)) (by decide) ?_
  refine ex_iload_n ok_X12_clear (mi 105 rfl) rfl ?_
  refine ex_iconst ok_X12_clear (mi 106 rfl) ?_
  refine ex_iasta (a := 37) (j := 4) (v := (nI 0)) ok_X12_clear (mi 107 rfl) (fk hs 37 rfl) (fn hs 37 rfl) (pk_in 4 9 (by decide)) (by decide) (by decide) ?_
  refine ex_aload_n ok_X12_clear (mi 108 rfl) rfl ?_
  refine ex_getRx ok_X12_clear (mi 109 rfl) rfl rfl (kq apq (fk hs 0 rfl)) (rq apq (fr hs 38 rfl)) (kq apq (fk hs 39 rfl)) (by decide) ?_
  refine ex_iload_n ok_X12_clear (mi 110 rfl) rfl ?_
  refine ex_iconst ok_X12_clear (mi 111 rfl) ?_
  refine ex_iasta (a := 39) (j := 4) (v := (-1)) ok_X12_clear (mi 112 rfl) (fk hs 39 rfl) (fn hs 39 rfl) (pk_in 4 9 (by decide)) (by decide) (by decide) ?_
  refine ex_aload_n ok_X12_clear (mi 113 rfl) rfl ?_
  refine ex_getRx ok_X12_clear (mi 114 rfl) rfl rfl (kq apq (fk hs 0 rfl)) (rq apq (fr hs 39 rfl)) (kq apq (fk hs 40 rfl)) (by decide) ?_
  refine ex_iload_n ok_X12_clear (mi 115 rfl) rfl ?_
  refine ex_iconst ok_X12_clear (mi 116 rfl) ?_
  refine ex_iasta (a := 40) (j := 4) (v := (-1)) ok_X12_clear (mi 117 rfl) (fk hs 40 rfl) (fn hs 40 rfl) (pk_in 4 9 (by decide)) (by decide) (by decide) ?_
  refine ex_aload_n ok_X12_clear (mi 118 rfl) rfl ?_
  refine ex_getRx ok_X12_clear (mi 119 rfl) rfl rfl (kq apq (fk hs 0 rfl)) (rq apq (fr hs 40 rfl)) (kq apq (fk hs 41 rfl)) (by decide) ?_
  refine ex_iload_n ok_X12_clear (mi 120 rfl) rfl ?_
  refine ex_iconst ok_X12_clear (mi 121 rfl) ?_
  refine ex_iasta (a := 41) (j := 4) (v := (nI 0)) ok_X12_clear (mi 122 rfl) (fk hs 41 rfl) (fn hs 41 rfl) (pk_in 4 9 (by decide)) (by decide) (by decide) ?_
  refine ex_aload_n ok_X12_clear (mi 123 rfl) rfl ?_
  refine ex_getRx ok_X12_clear (mi 124 rfl) rfl rfl (kq apq (fk hs 0 rfl)) (rq apq (fr hs 41 rfl)) (kq apq (fk hs 42 rfl)) (by decide) ?_
  refine ex_iload_n ok_X12_clear (mi 125 rfl) rfl ?_
  refine ex_iconst ok_X12_clear (mi 126 rfl) ?_
  refine ex_iasta (a := 42) (j := 4) (v := (nI 0)) ok_X12_clear (mi 127 rfl) (fk hs 42 rfl) (fn hs 42 rfl) (pk_in 4 9 (by decide)) (by decide) (by decide) ?_
  refine ex_iincx (w := (nI 5)) ok_X12_clear (mi 128 rfl) rfl (by decide) ?_
  refine ex_goto (tgt := 108) ok_X12_clear (mi 129 rfl) rfl ?_
  refine ex_ls (ls' := [(0, .ref x), (1, .int (nI 5))]) ⟨rfl, rfl, trivial⟩ ?_
  refine ex_iload_n ok_X12_clear (mi 70 rfl) rfl ?_
  refine ex_bipush ok_X12_clear (mi 71 rfl) ?_
  refine ex_icmp_ge (tgt := 204) ok_X12_clear (mi 72 rfl) rfl (fun hn => absurd hn (by decide)) (fun _ => ?_)
  refine ex_aload_n ok_X12_clear (mi 73 rfl) rfl ?_
  refine ex_getRx ok_X12_clear (mi 74 rfl) rfl rfl (kq apq (fk hs 0 rfl)) (rq apq (fr hs 33 rfl)) (kq apq (fk hs 34 rfl)) (by decide) ?_
  refine ex_iload_n ok_X12_clear (mi 75 rfl) rfl ?_
  refine ex_iload_n ok_X12_clear (mi 76 rfl) rfl ?_
  refine ex_iconst ok_X12_clear (mi 77 rfl) ?_
  refine ex_icmp_ge (tgt := 128) ok_X12_clear (mi 78 rfl) rfl (fun _ => ?_) (fun hn => absurd (by decide) hn)
  refine ex_iconst ok_X12_clear (mi 81 rfl) ?_
  refine ex_iasta (a := 34) (j := 5) (v := (nI 0)) ok_X12_clear (mi 82 rfl) (fk hs 34 rfl) (fn hs 34 rfl) (pk_in 5 9 (by decide)) (by decide) (by decide) ?_
  refine ex_aload_n ok_X12_clear (mi 83 rfl) rfl ?_
  refine ex_getRx ok_X12_clear (mi 84 rfl) rfl rfl (kq apq (fk hs 0 rfl)) (rq apq (fr hs 34 rfl)) (kq apq (fk hs 35 rfl)) (by decide) ?_
  refine ex_iload_n ok_X12_clear (mi 85 rfl) rfl ?_
  refine ex_iload_n ok_X12_clear (mi 86 rfl) rfl ?_
  refine ex_iconst ok_X12_clear (mi 87 rfl) ?_
  refine ex_icmp_ge (tgt := 144) ok_X12_clear (mi 88 rfl) rfl (fun _ => ?_) (fun hn => absurd (by decide) hn)
  refine ex_iconst ok_X12_clear (mi 91 rfl) ?_
  refine ex_iasta (a := 35) (j := 5) (v := (-1)) ok_X12_clear (mi 92 rfl) (fk hs 35 rfl) (fn hs 35 rfl) (pk_in 5 9 (by decide)) (by decide) (by decide) ?_
  refine ex_aload_n ok_X12_clear (mi 93 rfl) rfl ?_
  refine ex_getRx ok_X12_clear (mi 94 rfl) rfl rfl (kq apq (fk hs 0 rfl)) (rq apq (fr hs 35 rfl)) (kq apq (fk hs 36 rfl)) (by decide) ?_
  refine ex_iload_n ok_X12_clear (mi 95 rfl) rfl ?_
  refine ex_iload_n ok_X12_clear (mi 96 rfl) rfl ?_
  refine ex_iconst ok_X12_clear (mi 97 rfl) ?_
  refine ex_icmp_ge (tgt := 161) ok_X12_clear (mi 98 rfl) rfl (fun _ => ?_) (fun hn => absurd (by decide) hn)
  refine ex_iconst ok_X12_clear (mi 101 rfl) ?_
  refine ex_iasta (a := 36) (j := 5) (v := (nI 0)) ok_X12_clear (mi 102 rfl) (fk hs 36 rfl) (fn hs 36 rfl) (pk_in 5 9 (by decide)) (by decide) (by decide) ?_
  refine ex_aload_n ok_X12_clear (mi 103 rfl) rfl ?_
  refine ex_getRx ok_X12_clear (mi 104 rfl) rfl rfl (kq apq (fk hs 0 rfl)) (rq apq (fr hs 36 rfl)) (kq apq (fk hs 37 rfl)) (by decide) ?_
  refine ex_iload_n ok_X12_clear (mi 105 rfl) rfl ?_
  refine ex_iconst ok_X12_clear (mi 106 rfl) ?_
  refine ex_iasta (a := 37) (j := 5) (v := (nI 0)) ok_X12_clear (mi 107 rfl) (fk hs 37 rfl) (fn hs 37 rfl) (pk_in 5 9 (by decide)) (by decide) (by decide) ?_
  refine ex_aload_n ok_X12_clear (mi 108 rfl) rfl ?_
  refine ex_getRx ok_X12_clear (mi 109 rfl) rfl rfl (kq apq (fk hs 0 rfl)) (rq apq (fr hs 38 rfl)) (kq apq (fk hs 39 rfl)) (by decide) ?_
  refine ex_iload_n ok_X12_clear (mi 110 rfl) rfl ?_
  refine ex_iconst ok_X12_clear (mi 111 rfl) ?_
  refine ex_iasta (a := 39) (j := 5) (v := (-1)) ok_X12_clear (mi 112 rfl) (fk hs 39 rfl) (fn hs 39 rfl) (pk_in 5 9 (by decide)) (by decide) (by decide) ?_
  refine ex_aload_n ok_X12_clear (mi 113 rfl) rfl ?_
  refine ex_getRx ok_X12_clear (mi 114 rfl) rfl rfl (kq apq (fk hs 0 rfl)) (rq apq (fr hs 39 rfl)) (kq apq (fk hs 40 rfl)) (by decide) ?_
  refine ex_iload_n ok_X12_clear (mi 115 rfl) rfl ?_
  refine ex_iconst ok_X12_clear (mi 116 rfl) ?_
  refine ex_iasta (a := 40) (j := 5) (v := (-1)) ok_X12_clear (mi 117 rfl) (fk hs 40 rfl) (fn hs 40 rfl) (pk_in 5 9 (by decide)) (by decide) (by decide) ?_
  refine ex_aload_n ok_X12_clear (mi 118 rfl) rfl ?_
  refine ex_getRx ok_X12_clear (mi 119 rfl) rfl rfl (kq apq (fk hs 0 rfl)) (rq apq (fr hs 40 rfl)) (kq apq (fk hs 41 rfl)) (by decide) ?_
  refine ex_iload_n ok_X12_clear (mi 120 rfl) rfl ?_
  refine ex_iconst ok_X12_clear (mi 121 rfl) ?_
  refine ex_iasta (a := 41) (j := 5) (v := (nI 0)) ok_X12_clear (mi 122 rfl) (fk hs 41 rfl) (fn hs 41 rfl) (pk_in 5 9 (by decide)) (by decide) (by decide) ?_
  refine ex_aload_n ok_X12_clear (mi 123 rfl) rfl ?_
  refine ex_getRx ok_X12_clear (mi 124 rfl) rfl rfl (kq apq (fk hs 0 rfl)) (rq apq (fr hs 41 rfl)) (kq apq (fk hs 42 rfl)) (by decide) ?_
  refine ex_iload_n ok_X12_clear (mi 125 rfl) rfl ?_
  refine ex_iconst ok_X12_clear (mi 126 rfl) ?_
  refine ex_iasta (a := 42) (j := 5) (v := (nI 0)) ok_X12_clear (mi 127 rfl) (fk hs 42 rfl) (fn hs 42 rfl) (pk_in 5 9 (by decide)) (by decide) (by decide) ?_
  refine ex_iincx (w := (nI 6)) ok_X12_clear (mi 128 rfl) rfl (by decide) ?_
  refine ex_goto (tgt := 108) ok_X12_clear (mi 129 rfl) rfl ?_
  refine ex_ls (ls' := [(0, .ref x), (1, .int (nI 6))]) ⟨rfl, rfl, trivial⟩ ?_
  refine ex_iload_n ok_X12_clear (mi 70 rfl) rfl ?_
  refine ex_bipush ok_X12_clear (mi 71 rfl) ?_
  refine ex_icmp_ge (tgt := 204) ok_X12_clear (mi 72 rfl) rfl (fun hn => absurd hn (by decide)) (fun _ => ?_)
  refine ex_aload_n ok_X12_clear (mi 73 rfl) rfl ?_
  refine ex_getRx ok_X12_clear (mi 74 rfl) rfl rfl (kq apq (fk hs 0 rfl)) (rq apq (fr hs 33 rfl)) (kq apq (fk hs 34 rfl)) (by decide) ?_
  refine ex_iload_n ok_X12_clear (mi 75 rfl) rfl ?_
  refine ex_iload_n ok_X12_clear (mi 76 rfl) rfl ?_
  refine ex_iconst ok_X12_clear (mi 77 rfl) ?_
  refine ex_icmp_ge (tgt := 128) ok_X12_clear (mi 78 rfl) rfl (fun _ => ?_) (fun hn => absurd (by decide) hn)
  refine ex_iconst ok_X12_clear (mi 81 rfl) ?_
  refine ex_iasta (a := 34) (j := 6) (v := (nI 0)) ok_X12_clear (mi 82 rfl) (fk hs 34 rfl) (fn hs 34 rfl) (pk_in 6 9 (by decide)) (by decide) (by decide) ?_
  refine ex_aload_n ok_X12_clear (mi 83 rfl) rfl ?_
  refine ex_getRx ok_X12_clear (mi 84 rfl) rfl rfl (kq apq (fk hs 0 rfl)) (rq apq (fr hs 34 rfl)) (kq apq (fk hs 35 rfl)) (by decide) ?_
  refine ex_iload_n ok_X12_clear (mi 85 rfl) rfl ?_
  refine ex_iload_n ok_X12_clear (mi 86 rfl) rfl ?_
  refine ex_iconst ok_X12_clear (mi 87 rfl) ?_
  refine ex_icmp_ge (tgt := 144) ok_X12_clear (mi 88 rfl) rfl (fun _ => ?_) (fun hn => absurd (by decide) hn)
  refine ex_iconst ok_X12_clear (mi 91 rfl) ?_
  refine ex_iasta (a := 35) (j := 6) (v := (-1)) ok_X12_clear (mi 92 rfl) (fk hs 35 rfl) (fn hs 35 rfl) (pk_in 6 9 (by decide)) (by decide) (by decide) ?_
  refine ex_aload_n ok_X12_clear (mi 93 rfl) rfl ?_
  refine ex_getRx ok_X12_clear (mi 94 rfl) rfl rfl (kq apq (fk hs 0 rfl)) (rq apq (fr hs 35 rfl)) (kq apq (fk hs 36 rfl)) (by decide) ?_
  refine ex_iload_n ok_X12_clear (mi 95 rfl) rfl ?_
  refine ex_iload_n ok_X12_clear (mi 96 rfl) rfl ?_
  refine ex_iconst ok_X12_clear (mi 97 rfl) ?_
  refine ex_icmp_ge (tgt := 161) ok_X12_clear (mi 98 rfl) rfl (fun _ => ?_) (fun hn => absurd (by decide) hn)
  refine ex_iconst ok_X12_clear (mi 101 rfl) ?_
  refine ex_iasta (a := 36) (j := 6) (v := (nI 0)) ok_X12_clear (mi 102 rfl) (fk hs 36 rfl) (fn hs 36 rfl) (pk_in 6 9 (by decide)) (by decide) (by decide) ?_
  refine ex_aload_n ok_X12_clear (mi 103 rfl) rfl ?_
  refine ex_getRx ok_X12_clear (mi 104 rfl) rfl rfl (kq apq (fk hs 0 rfl)) (rq apq (fr hs 36 rfl)) (kq apq (fk hs 37 rfl)) (by decide) ?_
  refine ex_iload_n ok_X12_clear (mi 105 rfl) rfl ?_
  refine ex_iconst ok_X12_clear (mi 106 rfl) ?_
  refine ex_iasta (a := 37) (j := 6) (v := (nI 0)) ok_X12_clear (mi 107 rfl) (fk hs 37 rfl) (fn hs 37 rfl) (pk_in 6 9 (by decide)) (by decide) (by decide) ?_
  refine ex_aload_n ok_X12_clear (mi 108 rfl) rfl ?_
  refine ex_getRx ok_X12_clear (mi 109 rfl) rfl rfl (kq apq (fk hs 0 rfl)) (rq apq (fr hs 38 rfl)) (kq apq (fk hs 39 rfl)) (by decide) ?_
  refine ex_iload_n ok_X12_clear (mi 110 rfl) rfl ?_
  refine ex_iconst ok_X12_clear (mi 111 rfl) ?_
  refine ex_iasta (a := 39) (j := 6) (v := (-1)) ok_X12_clear (mi 112 rfl) (fk hs 39 rfl) (fn hs 39 rfl) (pk_in 6 9 (by decide)) (by decide) (by decide) ?_
  refine ex_aload_n ok_X12_clear (mi 113 rfl) rfl ?_
  refine ex_getRx ok_X12_clear (mi 114 rfl) rfl rfl (kq apq (fk hs 0 rfl)) (rq apq (fr hs 39 rfl)) (kq apq (fk hs 40 rfl)) (by decide) ?_
  refine ex_iload_n ok_X12_clear (mi 115 rfl) rfl ?_
  refine ex_iconst ok_X12_clear (mi 116 rfl) ?_
  refine ex_iasta (a := 40) (j := 6) (v := (-1)) ok_X12_clear (mi 117 rfl) (fk hs 40 rfl) (fn hs 40 rfl) (pk_in 6 9 (by decide)) (by decide) (by decide) ?_
  refine ex_aload_n ok_X12_clear (mi 118 rfl) rfl ?_
  refine ex_getRx ok_X12_clear (mi 119 rfl) rfl rfl (kq apq (fk hs 0 rfl)) (rq apq (fr hs 40 rfl)) (kq apq (fk hs 41 rfl)) (by decide) ?_
  refine ex_iload_n ok_X12_clear (mi 120 rfl) rfl ?_
  refine ex_iconst ok_X12_clear (mi 121 rfl) ?_
  refine ex_iasta (a := 41) (j := 6) (v := (nI 0)) ok_X12_clear (mi 122 rfl) (fk hs 41 rfl) (fn hs 41 rfl) (pk_in 6 9 (by decide)) (by decide) (by decide) ?_
  refine ex_aload_n ok_X12_clear (mi 123 rfl) rfl ?_
  refine ex_getRx ok_X12_clear (mi 124 rfl) rfl rfl (kq apq (fk hs 0 rfl)) (rq apq (fr hs 41 rfl)) (kq apq (fk hs 42 rfl)) (by decide) ?_
  refine ex_iload_n ok_X12_clear (mi 125 rfl) rfl ?_
  refine ex_iconst ok_X12_clear (mi 126 rfl) ?_
  refine ex_iasta (a := 42) (j := 6) (v := (nI 0)) ok_X12_clear (mi 127 rfl) (fk hs 42 rfl) (fn hs 42 rfl) (pk_in 6 9 (by decide)) (by decide) (by decide) ?_
  refine ex_iincx (w := (nI 7)) ok_X12_clear (mi 128 rfl) rfl (by decide) ?_
  refine ex_goto (tgt := 108) ok_X12_clear (mi 129 rfl) rfl ?_
  refine ex_ls (ls' := [(0, .ref x), (1, .int (nI 7))]) ⟨rfl, rfl, trivial⟩ ?_
  refine ex_iload_n ok_X12_clear (mi 70 rfl) rfl ?_
  refine ex_bipush ok_X12_clear (mi 71 rfl) ?_
  refine ex_icmp_ge (tgt := 204) ok_X12_clear (mi 72 rfl) rfl (fun hn => absurd hn (by decide)) (fun _ => ?_)
  refine ex_aload_n ok_X12_clear (mi 73 rfl) rfl ?_
  refine ex_getRx ok_X12_clear (mi 74 rfl) rfl rfl (kq apq (fk hs 0 rfl)) (rq apq (fr hs 33 rfl)) (kq apq (fk hs 34 rfl)) (by decide) ?_
  refine ex_iload_n ok_X12_clear (mi 75 rfl) rfl ?_
  refine ex_iload_n ok_X12_clear (mi 76 rfl) rfl ?_
  refine ex_iconst ok_X12_clear (mi 77 rfl) ?_
  refine ex_icmp_ge (tgt := 128) ok_X12_clear (mi 78 rfl) rfl (fun _ => ?_) (fun hn => absurd (by decide) hn)
  refine ex_iconst ok_X12_clear (mi 81 rfl) ?_
  refine ex_iasta (a := 34) (j := 7) (v := (nI 0)) ok_X12_clear (mi 82 rfl) (fk hs 34 rfl) (fn hs 34 rfl) (pk_in 7 9 (by decide)) (by decide) (by decide) ?_
  refine ex_aload_n ok_X12_clear (mi 83 rfl) rfl ?_
  refine ex_getRx ok_X12_clear (mi 84 rfl) rfl rfl (kq apq (fk hs 0 rfl)) (rq apq (fr hs 34 rfl)) (kq apq (fk hs 35 rfl)) (by decide) ?_
  refine ex_iload_n ok_X12_clear (mi 85 rfl) rfl ?_
  refine ex_iload_n ok_X12_clear (mi 86 rfl) rfl ?_
  refine ex_iconst ok_X12_clear (mi 87 rfl) ?_
  refine ex_icmp_ge (tgt := 144) ok_X12_clear (mi 88 rfl) rfl (fun _ => ?_) (fun hn => absurd (by decide) hn)
  refine ex_iconst ok_X12_clear (mi 91 rfl) ?_
  refine ex_iasta (a := 35) (j := 7) (v := (-1)) ok_X12_clear (mi 92 rfl) (fk hs 35 rfl) (fn hs 35 rfl) (pk_in 7 9 (by decide)) (by decide) (by decide) ?_
  refine ex_aload_n ok_X12_clear (mi 93 rfl) rfl ?_
  refine ex_getRx ok_X12_clear (mi 94 rfl) rfl rfl (kq apq (fk hs 0 rfl)) (rq apq (fr hs 35 rfl)) (kq apq (fk hs 36 rfl)) (by decide) ?_
  refine ex_iload_n ok_X12_clear (mi 95 rfl) rfl ?_
  refine ex_iload_n ok_X12_clear (mi 96 rfl) rfl ?_
  refine ex_iconst ok_X12_clear (mi 97 rfl) ?_
  refine ex_icmp_ge (tgt := 161) ok_X12_clear (mi 98 rfl) rfl (fun _ => ?_) (fun hn => absurd (by decide) hn)
  refine ex_iconst ok_X12_clear (mi 101 rfl) ?_
  refine ex_iasta (a := 36) (j := 7) (v := (nI 0)) ok_X12_clear (mi 102 rfl) (fk hs 36 rfl) (fn hs 36 rfl) (pk_in 7 9 (by decide)) (by decide) (by decide) ?_
  refine ex_aload_n ok_X12_clear (mi 103 rfl) rfl ?_
  refine ex_getRx ok_X12_clear (mi 104 rfl) rfl rfl (kq apq (fk hs 0 rfl)) (rq apq (fr hs 36 rfl)) (kq apq (fk hs 37 rfl)) (by decide) ?_
  refine ex_iload_n ok_X12_clear (mi 105 rfl) rfl ?_
  refine ex_iconst ok_X12_clear (mi 106 rfl) ?_
  refine ex_iasta (a := 37) (j := 7) (v := (nI 0)) ok_X12_clear (mi 107 rfl) (fk hs 37 rfl) (fn hs 37 rfl) (pk_in 7 9 (by decide)) (by decide) (by decide) ?_
  refine ex_aload_n ok_X12_clear (mi 108 rfl) rfl ?_
  refine ex_getRx ok_X12_clear (mi 109 rfl) rfl rfl (kq apq (fk hs 0 rfl)) (rq apq (fr hs 38 rfl)) (kq apq (fk hs 39 rfl)) (by decide) ?_
  refine ex_iload_n ok_X12_clear (mi 110 rfl) rfl ?_
  refine ex_iconst ok_X12_clear (mi 111 rfl) ?_
  refine ex_iasta (a := 39) (j := 7) (v := (-1)) ok_X12_clear (mi 112 rfl) (fk hs 39 rfl) (fn hs 39 rfl) (pk_in 7 9 (by decide)) (by decide) (by decide) ?_
  refine ex_aload_n ok_X12_clear (mi 113 rfl) rfl ?_
  refine ex_getRx ok_X12_clear (mi 114 rfl) rfl rfl (kq apq (fk hs 0 rfl)) (rq apq (fr hs 39 rfl)) (kq apq (fk hs 40 rfl)) (by decide) ?_
  refine ex_iload_n ok_X12_clear (mi 115 rfl) rfl ?_
  refine ex_iconst ok_X12_clear (mi 116 rfl) ?_
  refine ex_iasta (a := 40) (j := 7) (v := (-1)) ok_X12_clear (mi 117 rfl) (fk hs 40 rfl) (fn hs 40 rfl) (pk_in 7 9 (by decide)) (by decide) (by decide) ?_
  refine ex_aload_n ok_X12_clear (mi 118 rfl) rfl ?_
  refine ex_getRx ok_X12_clear (mi 119 rfl) rfl rfl (kq apq (fk hs 0 rfl)) (rq apq (fr hs 40 rfl)) (kq apq (fk hs 41 rfl)) (by decide) ?_
  refine ex_iload_n ok_X12_clear (mi 120 rfl) rfl ?_
  refine ex_iconst ok_X12_clear (mi 121 rfl) ?_
  refine ex_iasta (a := 41) (j := 7) (v := (nI 0)) ok_X12_clear (mi 122 rfl) (fk hs 41 rfl) (fn hs 41 rfl) (pk_in 7 9 (by decide)) (by decide) (by decide) ?_
  refine ex_aload_n ok_X12_clear (mi 123 rfl) rfl ?_
  refine ex_getRx ok_X12_clear (mi 124 rfl) rfl rfl (kq apq (fk hs 0 rfl)) (rq apq (fr hs 41 rfl)) (kq apq (fk hs 42 rfl)) (by decide) ?_
  refine ex_iload_n ok_X12_clear (mi 125 rfl) rfl ?_
  refine ex_iconst ok_X12_clear (mi 126 rfl) ?_
  refine ex_iasta (a := 42) (j := 7) (v := (nI 0)) ok_X12_clear (mi 127 rfl) (fk hs 42 rfl) (fn hs 42 rfl) (pk_in 7 9 (by decide)) (by decide) (by decide) ?_
  refine ex_iincx (w := (nI 8)) ok_X12_clear (mi 128 rfl) rfl (by decide) ?_
  refine ex_goto (tgt := 108) ok_X12_clear (mi 129 rfl) rfl ?_
  refine ex_ls (ls' := [(0, .ref x), (1, .int (nI 8))]) ⟨rfl, rfl, trivial⟩ ?_
  refine ex_iload_n ok_X12_clear (mi 70 rfl) rfl ?_
  refine ex_bipush ok_X12_clear (mi 71 rfl) ?_
  refine ex_icmp_ge (tgt := 204) ok_X12_clear (mi 72 rfl) rfl (fun hn => absurd hn (by decide)) (fun _ => ?_)
  refine ex_aload_n ok_X12_clear (mi 73 rfl) rfl ?_
  refine ex_getRx ok_X12_clear (mi 74 rfl) rfl rfl (kq apq (fk hs 0 rfl)) (rq apq (fr hs 33 rfl)) (kq apq (fk hs 34 rfl)) (by decide) ?_
  refine ex_iload_n ok_X12_clear (mi 75 rfl) rfl ?_
  refine ex_iload_n ok_X12_clear (mi 76 rfl) rfl ?_
  refine ex_iconst ok_X12_clear (mi 77 rfl) ?_
  refine ex_icmp_ge (tgt := 128) ok_X12_clear (mi 78 rfl) rfl (fun _ => ?_) (fun hn => absurd (by decide) hn)
  refine ex_iconst ok_X12_clear (mi 81 rfl) ?_
  refine ex_iasta (a := 34) (j := 8) (v := (nI 0)) ok_X12_clear (mi 82 rfl) (fk hs 34 rfl) (fn hs 34 rfl) (pk_in 8 9 (by decide)) (by decide) (by decide) ?_
  refine ex_aload_n ok_X12_clear (mi 83 rfl) rfl ?_
  refine ex_getRx ok_X12_clear (mi 84 rfl) rfl rfl (kq apq (fk hs 0 rfl)) (rq apq (fr hs 34 rfl)) (kq apq (fk hs 35 rfl)) (by decide) ?_
  refine ex_iload_n ok_X12_clear (mi 85 rfl) rfl ?_
  refine ex_iload_n ok_X12_clear (mi 86 rfl) rfl ?_
  refine ex_iconst ok_X12_clear (mi 87 rfl) ?_
  refine ex_icmp_ge (tgt := 144) ok_X12_clear (mi 88 rfl) rfl (fun _ => ?_) (fun hn => absurd (by decide) hn)
  refine ex_iconst ok_X12_clear (mi 91 rfl) ?_
  refine ex_iasta (a := 35) (j := 8) (v := (-1)) ok_X12_clear (mi 92 rfl) (fk hs 35 rfl) (fn hs 35 rfl) (pk_in 8 9 (by decide)) (by decide) (by decide) ?_
  refine ex_aload_n ok_X12_clear (mi 93 rfl) rfl ?_
  refine ex_getRx ok_X12_clear (mi 94 rfl) rfl rfl (kq apq (fk hs 0 rfl)) (rq apq (fr hs 35 rfl)) (kq apq (fk hs 36 rfl)) (by decide) ?_
  refine ex_iload_n ok_X12_clear (mi 95 rfl) rfl ?_
  refine ex_iload_n ok_X12_clear (mi 96 rfl) rfl ?_
  refine ex_iconst ok_X12_clear (mi 97 rfl) ?_
  refine ex_icmp_ge (tgt := 161) ok_X12_clear (mi 98 rfl) rfl (fun _ => ?_) (fun hn => absurd (by decide) hn)
  refine ex_iconst ok_X12_clear (mi 101 rfl) ?_
  refine ex_iasta (a := 36) (j := 8) (v := (nI 0)) ok_X12_clear (mi 102 rfl) (fk hs 36 rfl) (fn hs 36 rfl) (pk_in 8 9 (by decide)) (by decide) (by decide) ?_
  refine ex_aload_n ok_X12_clear (mi 103 rfl) rfl ?_
  refine ex_getRx ok_X12_clear (mi 104 rfl) rfl rfl (kq apq (fk hs 0 rfl)) (rq apq (fr hs 36 rfl)) (kq apq (fk hs 37 rfl)) (by decide) ?_
  refine ex_iload_n ok_X12_clear (mi 105 rfl) rfl ?_
  refine ex_iconst ok_X12_clear (mi 106 rfl) ?_
  refine ex_iasta (a := 37) (j := 8) (v := (nI 0)) ok_X12_clear (mi 107 rfl) (fk hs 37 rfl) (fn hs 37 rfl) (pk_in 8 9 (by decide)) (by decide) (by decide) ?_
  refine ex_aload_n ok_X12_clear (mi 108 rfl) rfl ?_
  refine ex_getRx ok_X12_clear (mi 109 rfl) rfl rfl (kq apq (fk hs 0 rfl)) (rq apq (fr hs 38 rfl)) (kq apq (fk hs 39 rfl)) (by decide) ?_
  refine ex_iload_n ok_X12_clear (mi 110 rfl) rfl ?_
  refine ex_iconst ok_X12_clear (mi 111 rfl) ?_
  refine ex_iasta (a := 39) (j := 8) (v := (-1)) ok_X12_clear (mi 112 rfl) (fk hs 39 rfl) (fn hs 39 rfl) (pk_in 8 9 (by decide)) (by decide) (by decide) ?_
  refine ex_aload_n ok_X12_clear (mi 113 rfl) rfl ?_
  refine ex_getRx ok_X12_clear (mi 114 rfl) rfl rfl (kq apq (fk hs 0 rfl)) (rq apq (fr hs 39 rfl)) (kq apq (fk hs 40 rfl)) (by decide) ?_
  refine ex_iload_n ok_X12_clear (mi 115 rfl) rfl ?_
  refine ex_iconst ok_X12_clear (mi 116 rfl) ?_
  refine ex_iasta (a := 40) (j := 8) (v := (-1)) ok_X12_clear (mi 117 rfl) (fk hs 40 rfl) (fn hs 40 rfl) (pk_in 8 9 (by decide)) (by decide) (by decide) ?_
  refine ex_aload_n ok_X12_clear (mi 118 rfl) rfl ?_
  refine ex_getRx ok_X12_clear (mi 119 rfl) rfl rfl (kq apq (fk hs 0 rfl)) (rq apq (fr hs 40 rfl)) (kq apq (fk hs 41 rfl)) (by decide) ?_
  refine ex_iload_n ok_X12_clear (mi 120 rfl) rfl ?_
  refine ex_iconst ok_X12_clear (mi 121 rfl) ?_
  refine ex_iasta (a := 41) (j := 8) (v := (nI 0)) ok_X12_clear (mi 122 rfl) (fk hs 41 rfl) (fn hs 41 rfl) (pk_in 8 9 (by decide)) (by decide) (by decide) ?_
  refine ex_aload_n ok_X12_clear (mi 123 rfl) rfl ?_
  refine ex_getRx ok_X12_clear (mi 124 rfl) rfl rfl (kq apq (fk hs 0 rfl)) (rq apq (fr hs 41 rfl)) (kq apq (fk hs 42 rfl)) (by decide) ?_
  refine ex_iload_n ok_X12_clear (mi 125 rfl) rfl ?_
  refine ex_iconst ok_X12_clear (mi 126 rfl) ?_
  refine ex_iasta (a := 42) (j := 8) (v := (nI 0)) ok_X12_clear (mi 127 rfl) (fk hs 42 rfl) (fn hs 42 rfl) (pk_in 8 9 (by decide)) (by decide) (by decide) ?_
  refine ex_iincx (w := (nI 9)) ok_X12_clear (mi 128 rfl) rfl (by decide) ?_
  refine ex_goto (tgt := 108) ok_X12_clear (mi 129 rfl) rfl ?_
  refine ex_ls (ls' := [(0, .ref x), (1, .int (nI 9))]) ⟨rfl, rfl, trivial⟩ ?_
  refine ex_iload_n ok_X12_clear (mi 70 rfl) rfl ?_
  refine ex_bipush ok_X12_clear (mi 71 rfl) ?_
  refine ex_icmp_ge (tgt := 204) ok_X12_clear (mi 72 rfl) rfl (fun _ => ?_) (fun hn => absurd (by decide) hn)
  refine ex_iconst ok_X12_clear (mi 130 rfl) ?_
  refine ex_istore_n ok_X12_clear (mi 131 rfl) ?_
  refine ex_ls (ls' := [(0, .ref x), (1, .int (nI 0))]) ⟨rfl, rfl, trivial⟩ ?_
  refine lp_c206 hs ?_
  refine ex_iconst ok_X12_clear (mi 142 rfl) ?_
  refine ex_istore_n ok_X12_clear (mi 143 rfl) ?_
  refine ex_iload_n ok_X12_clear (mi 144 rfl) rfl ?_
  refine ex_bipush ok_X12_clear (mi 145 rfl) ?_
  refine ex_icmp_ge (tgt := 254) ok_X12_clear (mi 146 rfl) rfl (fun hn => absurd hn (by decide)) (fun _ => ?_)
  refine ex_aload_n ok_X12_clear (mi 147 rfl) rfl ?_
  refine ex_getRx ok_X12_clear (mi 148 rfl) rfl rfl (kq apq (fk hs 0 rfl)) (rq apq (fr hs 42 rfl)) (kq apq (fk hs 43 rfl)) (by decide) ?_
  refine ex_iload_n ok_X12_clear (mi 149 rfl) rfl ?_
  refine ex_iconst ok_X12_clear (mi 150 rfl) ?_
  refine ex_iasta (a := 43) (j := 0) (v := (-1)) ok_X12_clear (mi 151 rfl) (fk hs 43 rfl) (fn hs 43 rfl) (pk_in 0 12 (by decide)) (by decide) (by decide) ?_
  refine ex_aload_n ok_X12_clear (mi 152 rfl) rfl ?_
  refine ex_getRx ok_X12_clear (mi 153 rfl) rfl rfl (kq apq (fk hs 0 rfl)) (rq apq (fr hs 43 rfl)) (kq apq (fk hs 44 rfl)) (by decide) ?_
  refine ex_iload_n ok_X12_clear (mi 154 rfl) rfl ?_
  refine ex_iconst ok_X12_clear (mi 155 rfl) ?_
  refine ex_iasta (a := 44) (j := 0) (v := (nI 0)) ok_X12_clear (mi 156 rfl) (fk hs 44 rfl) (fn hs 44 rfl) (pk_in 0 12 (by decide)) (by decide) (by decide) ?_
  refine ex_iincx (w := (nI 1)) ok_X12_clear (mi 157 rfl) rfl (by decide) ?_
  refine ex_goto (tgt := 228) ok_X12_clear (mi 158 rfl) rfl ?_
  refine ex_ls (ls' := [(0, .ref x), (1, .int (nI 1))]) ⟨rfl, rfl, trivial⟩ ?_
  refine ex_iload_n ok_X12_clear (mi 144 rfl) rfl ?_
  refine ex_bipush ok_X12_clear (mi 145 rfl) ?_
  refine ex_icmp_ge (tgt := 254) ok_X12_clear (mi 146 rfl) rfl (fun hn => absurd hn (by decide)) (fun _ => ?_)
  refine ex_aload_n ok_X12_clear (mi 147 rfl) rfl ?_
  refine ex_getRx ok_X12_clear (mi 148 rfl) rfl rfl (kq apq (fk hs 0 rfl)) (rq apq (fr hs 42 rfl)) (kq apq (fk hs 43 rfl)) (by decide) ?_
  refine ex_iload_n ok_X12_clear (mi 149 rfl) rfl ?_
  refine ex_iconst ok_X12_clear (mi 150 rfl) ?_
  refine ex_iasta (a := 43) (j := 1) (v := (-1)) ok_X12_clear (mi 151 rfl) (fk hs 43 rfl) (fn hs 43 rfl) (pk_in 1 12 (by decide)) (by decide) (by decide) ?_
  refine ex_aload_n ok_X12_clear (mi 152 rfl) rfl ?_
  refine ex_getRx ok_X12_clear (mi 153 rfl) rfl rfl (kq apq (fk hs 0 rfl)) (rq apq (fr hs 43 rfl)) (kq apq (fk hs 44 rfl)) (by decide) ?_
  refine ex_iload_n ok_X12_clear (mi 154 rfl) rfl ?_
  refine ex_iconst ok_X12_clear (mi 155 rfl) ?_
  refine ex_iasta (a := 44) (j := 1) (v := (nI 0)) ok_X12_clear (mi 156 rfl) (fk hs 44 rfl) (fn hs 44 rfl) (pk_in 1 12 (by decide)) (by decide) (by decide) ?_
  refine ex_iincx (w := (nI 2)) ok_X12_clear (mi 157 rfl) rfl (by decide) ?_
  refine ex_goto (tgt := 228) ok_X12_clear (mi 158 rfl) rfl ?_
  refine ex_ls (ls' := [(0, .ref x), (1, .int (nI 2))]) ⟨rfl, rfl, trivial⟩ ?_
  refine ex_iload_n ok_X12_clear (mi 144 rfl) rfl ?_
  refine ex_bipush ok_X12_clear (mi 145 rfl) ?_
  refine ex_icmp_ge (tgt := 254) ok_X12_clear (mi 146 rfl) rfl (fun hn => absurd hn (by decide)) (fun _ => ?_)
  refine ex_aload_n ok_X12_clear (mi 147 rfl) rfl ?_
  refine ex_getRx ok_X12_clear (mi 148 rfl) rfl rfl (kq apq (fk hs 0 rfl)) (rq apq (fr hs 42 rfl)) (kq apq (fk hs 43 rfl)) (by decide) ?_
  refine ex_iload_n ok_X12_clear (mi 149 rfl) rfl ?_
  refine ex_iconst ok_X12_clear (mi 150 rfl) ?_
  refine ex_iasta (a := 43) (j := 2) (v := (-1)) ok_X12_clear (mi 151 rfl) (fk hs 43 rfl) (fn hs 43 rfl) (pk_in 2 12 (by decide)) (by decide) (by decide) ?_
  refine ex_aload_n ok_X12_clear (mi 152 rfl) rfl ?_
  refine ex_getRx ok_X12_clear (mi 153 rfl) rfl rfl (kq apq (fk hs 0 rfl)) (rq apq (fr hs 43 rfl)) (kq apq (fk hs 44 rfl)) (by decide) ?_
  refine ex_iload_n ok_X12_clear (mi 154 rfl) rfl ?_
  refine ex_iconst ok_X12_clear (mi 155 rfl) ?_
  refine ex_iasta (a := 44) (j := 2) (v := (nI 0)) ok_X12_clear (mi 156 rfl) (fk hs 44 rfl) (fn hs 44 rfl) (pk_in 2 12 (by decide)) (by decide) (by decide) ?_
  refine ex_iincx (w := (nI 3)) ok_X12_clear (mi 157 rfl) rfl (by decide) ?_
  refine ex_goto (tgt := 228) ok_X12_clear (mi 158 rfl) rfl ?_
  refine ex_ls (ls' := [(0, .ref x), (1, .int (nI 3))]) ⟨rfl, rfl, trivial⟩ ?_
  refine ex_iload_n ok_X12_clear (mi 144 rfl) rfl ?_
  refine ex_bipush ok_X12_clear (mi 145 rfl) ?_
  refine ex_icmp_ge (tgt := 254) ok_X12_clear (mi 146 rfl) rfl (fun hn => absurd hn (by decide)) (fun _ => ?_)
  refine ex_aload_n ok_X12_clear (mi 147 rfl) rfl ?_
  refine ex_getRx ok_X12_clear (mi 148 rfl) rfl rfl (kq apq (fk hs 0 rfl)) (rq apq (fr hs 42 rfl)) (kq apq (fk hs 43 rfl)) (by decide) ?_
  refine ex_iload_n ok_X12_clear (mi 149 rfl) rfl ?_
  refine ex_iconst ok_X12_clear (mi 150 rfl) ?_
  refine ex_iasta (a := 43) (j := 3) (v := (-1)) ok_X12_clear (mi 151 rfl) (fk hs 43 rfl) (fn hs 43 rfl) (pk_in 3 12 (by decide)) (by decide) (by decide) ?_
  refine ex_aload_n ok_X12_clear (mi 152 rfl) rfl ?_
  refine ex_getRx ok_X12_clear (mi 153 rfl) rfl rfl (kq apq (fk hs 0 rfl)) (rq apq (fr hs 43 rfl)) (kq apq (fk hs 44 rfl)) (by decide) ?_
  refine ex_iload_n ok_X12_clear (mi 154 rfl) rfl ?_
  refine ex_iconst ok_X12_clear (mi 155 rfl) ?_
  refine ex_iasta (a := 44) (j := 3) (v := (nI 0)) ok_X12_clear (mi 156 rfl) (fk hs 44 rfl) (fn hs 44 rfl) (pk_in 3 12 (by decide)) (by decide) (by decide) ?_
  refine ex_iincx (w := (nI 4)) ok_X12_clear (mi 157 rfl) rfl (by decide) ?_
  refine ex_goto (tgt := 228) ok_X12_clear (mi 158 rfl) rfl ?_
  refine ex_ls (ls' := [(0, .ref x), (1, .int (nI 4))]) ⟨rfl, rfl, trivial⟩ ?_
  refine ex_iload_n ok_X12_clear (mi 144 rfl) rfl ?_
  refine ex_bipush ok_X12_clear (mi 145 rfl) ?_
  refine ex_icmp_ge (tgt := 254) ok_X12_clear (mi 146 rfl) rfl (fun hn => absurd hn (by decide)) (fun _ => ?_)
  refine ex_aload_n ok_X12_clear (mi 147 rfl) rfl ?_
  refine ex_getRx ok_X12_clear (mi 148 rfl) rfl rfl (kq apq (fk hs 0 rfl)) (rq apq (fr hs 42 rfl)) (kq apq (fk hs 43 rfl)) (by decide) ?_
  refine ex_iload_n ok_X12_clear (mi 149 rfl) rfl ?_
  refine ex_iconst ok_X12_clear (mi 150 rfl) ?_
  refine ex_iasta (a := 43) (j := 4) (v := (-1)) ok_X12_clear (mi 151 rfl) (fk hs 43 rfl) (fn hs 43 rfl) (pk_in 4 12 (by decide)) (by decide) (by decide) ?_
  refine ex_aload_n ok_X12_clear (mi 152 rfl) rfl ?_
  refine ex_getRx ok_X12_clear (mi 153 rfl) rfl rfl (kq apq (fk hs 0 rfl)) (rq apq (fr hs 43 rfl)) (kq apq (fk hs 44 rfl)) (by decide) ?_
  refine ex_iload_n ok_X12_clear (mi 154 rfl) rfl ?_
  refine ex_iconst ok_X12_clear (mi 155 rfl) ?_
  refine ex_iasta (a := 44) (j := 4) (v := (nI 0)) ok_X12_clear (mi 156 rfl) (fk hs 44 rfl) (fn hs 44 rfl) (pk_in 4 12 (by decide)) (by decide) (by decide) ?_
  refine ex_iincx (w := (nI 5)) ok_X12_clear (mi 157 rfl) rfl (by decide) ?_
  refine ex_goto (tgt := 228) ok_X12_clear (mi 158 rfl) rfl ?_
  refine ex_ls (ls' := [(0, .ref x), (1, .int (nI 5))]) ⟨rfl, rfl, trivial⟩ ?_
  refine ex_iload_n ok_X12_clear (mi 144 rfl) rfl ?_
  refine ex_bipush ok_X12_clear (mi 145 rfl) ?_
  refine ex_icmp_ge (tgt := 254) ok_X12_clear (mi 146 rfl) rfl (fun hn => absurd hn (by decide)) (fun _ => ?_)
  refine ex_aload_n ok_X12_clear (mi 147 rfl) rfl ?_
  refine ex_getRx ok_X12_clear (mi 148 rfl) rfl rfl (kq apq (fk hs 0 rfl)) (rq apq (fr hs 42 rfl)) (kq apq (fk hs 43 rfl)) (by decide) ?_
  refine ex_iload_n ok_X12_clear (mi 149 rfl) rfl ?_
  refine ex_iconst ok_X12_clear (mi 150 rfl) ?_
  refine ex_iasta (a := 43) (j := 5) (v := (-1)) ok_X12_clear (mi 151 rfl) (fk hs 43 rfl) (fn hs 43 rfl) (pk_in 5 12 (by decide)) (by decide) (by decide) ?_
  refine ex_aload_n ok_X12_clear (mi 152 rfl) rfl ?_
  refine ex_getRx ok_X12_clear (mi 153 rfl) rfl rfl (kq apq (fk hs 0 rfl)) (rq apq (fr hs 43 rfl)) (kq apq (fk hs 44 rfl)) (by decide) ?_
  refine ex_iload_n ok_X12_clear (mi 154 rfl) rfl ?_
  refine ex_iconst ok_X12_clear (mi 155 rfl) ?_
  refine ex_iasta (a := 44) (j := 5) (v := (nI 0)) ok_X12_clear (mi 156 rfl) (fk hs 44 rfl) (fn hs 44 rfl) (pk_in 5 12 (by decide)) (by decide) (by decide) ?_
  refine ex_iincx (w := (nI 6)) ok_X12_clear (mi 157 rfl) rfl (by decide) ?_
  refine ex_goto (tgt := 228) ok_X12_clear (mi 158 rfl) rfl ?_
  refine ex_ls (ls' := [(0, .ref x), (1, .int (nI 6))]) ⟨rfl, rfl, trivial⟩ ?_
  refine ex_iload_n ok_X12_clear (mi 144 rfl) rfl ?_
  refine ex_bipush ok_X12_clear (mi 145 rfl) ?_
  refine ex_icmp_ge (tgt := 254) ok_X12_clear (mi 146 rfl) rfl (fun hn => absurd hn (by decide)) (fun _ => ?_)
  refine ex_aload_n ok_X12_clear (mi 147 rfl) rfl ?_
  refine ex_getRx ok_X12_clear (mi 148 rfl) rfl rfl (kq apq (fk hs 0 rfl)) (rq apq (fr hs 42 rfl)) (kq apq (fk hs 43 rfl)) (by decide) ?_
  refine ex_iload_n ok_X12_clear (mi 149 rfl) rfl ?_
  refine ex_iconst ok_X12_clear (mi 150 rfl) ?_
  refine ex_iasta (a := 43) (j := 6) (v := (-1)) ok_X12_clear (mi 151 rfl) (fk hs 43 rfl) (fn hs 43 rfl) (pk_in 6 12 (by decide)) (by decide) (by decide) ?_
  refine ex_aload_n ok_X12_clear (mi 152 rfl) rfl ?_
  refine ex_getRx ok_X12_clear (mi 153 rfl) rfl rfl (kq apq (fk hs 0 rfl)) (rq apq (fr hs 43 rfl)) (kq apq (fk hs 44 rfl)) (by decide) ?_
  refine ex_iload_n ok_X12_clear (mi 154 rfl) rfl ?_
  refine ex_iconst ok_X12_clear (mi 155 rfl) ?_
  refine ex_iasta (a := 44) (j := 6) (v := (nI 0)) ok_X12_clear (mi 156 rfl) (fk hs 44 rfl) (fn hs 44 rfl) (pk_in 6 12 (by decide)) (by decide) (by decide) ?_
  refine ex_iincx (w := (nI 7)) ok_X12_clear (mi 157 rfl) rfl (by decide) ?_
  refine ex_goto (tgt := 228) ok_X12_clear (mi 158 rfl) rfl ?_
  refine ex_ls (ls' := [(0, .ref x), (1, .int (nI 7))]) ⟨rfl, rfl, trivial⟩ ?_
  refine ex_iload_n ok_X12_clear (mi 144 rfl) rfl ?_
  refine ex_bipush ok_X12_clear (mi 145 rfl) ?_
  refine ex_icmp_ge (tgt := 254) ok_X12_clear (mi 146 rfl) rfl (fun hn => absurd hn (by decide)) (fun _ => ?_)
  refine ex_aload_n ok_X12_clear (mi 147 rfl) rfl ?_
  refine ex_getRx ok_X12_clear (mi 148 rfl) rfl rfl (kq apq (fk hs 0 rfl)) (rq apq (fr hs 42 rfl)) (kq apq (fk hs 43 rfl)) (by decide) ?_
  refine ex_iload_n ok_X12_clear (mi 149 rfl) rfl ?_
  refine ex_iconst ok_X12_clear (mi 150 rfl) ?_
  refine ex_iasta (a := 43) (j := 7) (v := (-1)) ok_X12_clear (mi 151 rfl) (fk hs 43 rfl) (fn hs 43 rfl) (pk_in 7 12 (by decide)) (by decide) (by decide) ?_
  refine ex_aload_n ok_X12_clear (mi 152 rfl) rfl ?_
  refine ex_getRx ok_X12_clear (mi 153 rfl) rfl rfl (kq apq (fk hs 0 rfl)) (rq apq (fr hs 43 rfl)) (kq apq (fk hs 44 rfl)) (by decide) ?_
  refine ex_iload_n ok_X12_clear (mi 154 rfl) rfl ?_
  refine ex_iconst ok_X12_clear (mi 155 rfl) ?_
  refine ex_iasta (a := 44) (j := 7) (v := (nI 0)) ok_X12_clear (mi 156 rfl) (fk hs 44 rfl) (fn hs 44 rfl) (pk_in 7 12 (by decide)) (by decide) (by decide) ?_
  refine ex_iincx (w := (nI 8)) ok_X12_clear (mi 157 rfl) rfl (by decide) ?_
  refine ex_goto (tgt := 228) ok_X12_clear (mi 158 rfl) rfl ?_
  refine ex_ls (ls' := [(0, .ref x), (1, .int (nI 8))]) ⟨rfl, rfl, trivial⟩ ?_
  refine ex_iload_n ok_X12_clear (mi 144 rfl) rfl ?_
  refine ex_bipush ok_X12_clear (mi 145 rfl) ?_
  refine ex_icmp_ge (tgt := 254) ok_X12_clear (mi 146 rfl) rfl (fun hn => absurd hn (by decide)) (fun _ => ?_)
  refine ex_aload_n ok_X12_clear (mi 147 rfl) rfl ?_
  refine ex_getRx ok_X12_clear (mi 148 rfl) rfl rfl (kq apq (fk hs 0 rfl)) (rq apq (fr hs 42 rfl)) (kq apq (fk hs 43 rfl)) (by decide) ?_
  refine ex_iload_n ok_X12_clear (mi 149 rfl) rfl ?_
  refine ex_iconst ok_X12_clear (mi 150 rfl) ?_
  refine ex_iasta (a := 43) (j := 8) (v := (-1)) ok_X12_clear (mi 151 rfl) (fk hs 43 rfl) (fn hs 43 rfl) (pk_in 8 12 (by decide)) (by decide) (by decide) ?_
  refine ex_aload_n ok_X12_clear (mi 152 rfl) rfl ?_
  refine ex_getRx ok_X12_clear (mi 153 rfl) rfl rfl (kq apq (fk hs 0 rfl)) (rq apq (fr hs 43 rfl)) (kq apq (fk hs 44 rfl)) (by decide) ?_
  refine ex_iload_n ok_X12_clear (mi 154 rfl) rfl ?_
  refine ex_iconst ok_X12_clear (mi 155 rfl) ?_
  refine ex_iasta (a := 44) (j := 8) (v := (nI 0)) ok_X12_clear (mi 156 rfl) (fk hs 44 rfl) (fn hs 44 rfl) (pk_in 8 12 (by decide)) (by decide) (by decide) ?_
  refine ex_iincx (w := (nI 9)) ok_X12_clear (mi 157 rfl) rfl (by decide) ?_
  refine ex_goto (tgt := 228) ok_X12_clear (mi 158 rfl) rfl ?_
  refine ex_ls (ls' := [(0, .ref x), (1, .int (nI 9))]) ⟨rfl, rfl, trivial⟩ ?_
  refine ex_iload_n ok_X12_clear (mi 144 rfl) rfl ?_
  refine ex_bipush ok_X12_clear (mi 145 rfl) ?_
  refine ex_icmp_ge (tgt := 254) ok_X12_clear (mi 146 rfl) rfl (fun hn => absurd hn (by decide)) (fun _ => ?_)
  refine ex_aload_n ok_X12_clear (mi 147 rfl) rfl ?_
  refine ex_getRx ok_X12_clear (mi 148 rfl) rfl rfl (kq apq (fk hs 0 rfl)) (rq apq (fr hs 42 rfl)) (kq apq (fk hs 43 rfl)) (by decide) ?_
  refine ex_iload_n ok_X12_clear (mi 149 rfl) rfl ?_
  refine ex_iconst ok_X12_clear (mi 150 rfl) ?_
  refine ex_iasta (a := 43) (j := 9) (v := (-1)) ok_X12_clear (mi 151 rfl) (fk hs 43 rfl) (fn hs 43 rfl) (pk_in 9 12 (by decide)) (by decide) (by decide) ?_
  refine ex_aload_n ok_X12_clear (mi 152 rfl) rfl ?_
  refine ex_getRx ok_X12_clear (mi 153 rfl) rfl rfl (kq apq (fk hs 0 rfl)) (rq apq (fr hs 43 rfl)) (kq apq (fk hs 44 rfl)) (by decide) ?_
  refine ex_iload_n ok_X12_clear (mi 154 rfl) rfl ?_
  refine ex_iconst ok_X12_clear (mi 155 rfl) ?_
  refine ex_iasta (a := 44) (j := 9) (v := (nI 0)) ok_X12_clear (mi 156 rfl) (fk hs 44 rfl) (fn hs 44 rfl) (pk_in 9 12 (by decide)) (by decide) (by decide) ?_
  refine ex_iincx (w := (nI 10)) ok_X12_clear (mi 157 rfl) rfl (by decide) ?_
  refine ex_goto (tgt := 228) ok_X12_clear (mi 158 rfl) rfl ?_
  refine ex_ls (ls' := [(0, .ref x), (1, .int (nI 10))]) ⟨rfl, rfl, trivial⟩ ?_
  refine ex_iload_n ok_X12_clear (mi 144 rfl) rfl ?_
  refine ex_bipush ok_X12_clear (mi 145 rfl) ?_
  refine ex_icmp_ge (tgt := 254) ok_X12_clear (mi 146 rfl) rfl (fun hn => absurd hn (by decide)) (fun _ => ?_)
  refine ex_aload_n ok_X12_clear (mi 147 rfl) rfl ?_
  refine ex_getRx ok_X12_clear (mi 148 rfl) rfl rfl (kq apq (fk hs 0 rfl)) (rq apq (fr hs 42 rfl)) (kq apq (fk hs 43 rfl)) (by decide) ?_
  refine ex_iload_n ok_X12_clear (mi 149 rfl) rfl ?_
  refine ex_iconst ok_X12_clear (mi 150 rfl) ?_
  refine ex_iasta (a := 43) (j := 10) (v := (-1)) ok_X12_clear (mi 151 rfl) (fk hs 43 rfl) (fn hs 43 rfl) (pk_in 10 12 (by decide)) (by decide) (by decide) ?_
  refine ex_aload_n ok_X12_clear (mi 152 rfl) rfl ?_
  refine ex_getRx ok_X12_clear (mi 153 rfl) rfl rfl (kq apq (fk hs 0 rfl)) (rq apq (fr hs 43 rfl)) (kq apq (fk hs 44 rfl)) (by decide) ?_
  refine ex_iload_n ok_X12_clear (mi 154 rfl) rfl ?_
  refine ex_iconst ok_X12_clear (mi 155 rfl) ?_
  refine ex_iasta (a := 44) (j := 10) (v := (nI 0)) ok_X12_clear (mi 156 rfl) (fk hs 44 rfl) (fn hs 44 rfl) (pk_in 10 12 (by decide)) (by decide) (by decide) ?_
  refine ex_iincx (w := (nI 11)) ok_X12_clear (mi 157 rfl) rfl (by decide) ?_
  refine ex_goto (tgt := 228) ok_X12_clear (mi 158 rfl) rfl ?_
  refine ex_ls (ls' := [(0, .ref x), (1, .int (nI 11))]) ⟨rfl, rfl, trivial⟩ ?_
  refine ex_iload_n ok_X12_clear (mi 144 rfl) rfl ?_
  refine ex_bipush ok_X12_clear (mi 145 rfl) ?_
  refine ex_icmp_ge (tgt := 254) ok_X12_clear (mi 146 rfl) rfl (fun hn => absurd hn (by decide)) (fun _ => ?_)
  refine ex_aload_n ok_X12_clear (mi 147 rfl) rfl ?_
  refine ex_getRx ok_X12_clear (mi 148 rfl) rfl rfl (kq apq (fk hs 0 rfl)) (rq apq (fr hs 42 rfl)) (kq apq (fk hs 43 rfl)) (by decide) ?_
  refine ex_iload_n ok_X12_clear (mi 149 rfl) rfl ?_
  refine ex_iconst ok_X12_clear (mi 150 rfl) ?_
  refine ex_iasta (a := 43) (j := 11) (v := (-1)) ok_X12_clear (mi 151 rfl) (fk hs 43 rfl) (fn hs 43 rfl) (pk_in 11 12 (by decide)) (by decide) (by decide) ?_
  refine ex_aload_n ok_X12_clear (mi 152 rfl) rfl ?_
  refine ex_getRx ok_X12_clear (mi 153 rfl) rfl rfl (kq apq (fk hs 0 rfl)) (rq apq (fr hs 43 rfl)) (kq apq (fk hs 44 rfl)) (by decide) ?_
  refine ex_iload_n ok_X12_clear (mi 154 rfl) rfl ?_
  refine ex_iconst ok_X12_clear (mi 155 rfl) ?_
  refine ex_iasta (a := 44) (j := 11) (v := (nI 0)) ok_X12_clear (mi 156 rfl) (fk hs 44 rfl) (fn hs 44 rfl) (pk_in 11 12 (by decide)) (by decide) (by decide) ?_
  refine ex_iincx (w := (nI 12)) ok_X12_clear (mi 157 rfl) rfl (by decide) ?_
  refine ex_goto (tgt := 228) ok_X12_clear (mi 158 rfl) rfl ?_
  refine ex_ls (ls' := [(0, .ref x), (1, .int (nI 12))]) ⟨rfl, rfl, trivial⟩ ?_
  refine ex_iload_n ok_X12_clear (mi 144 rfl) rfl ?_
  refine ex_bipush ok_X12_clear (mi 145 rfl) ?_
  refine ex_icmp_ge (tgt := 254) ok_X12_clear (mi 146 rfl) rfl (fun _ => ?_) (fun hn => absurd (by decide) hn)
  refine ex_iconst ok_X12_clear (mi 159 rfl) ?_
  refine ex_istore_n ok_X12_clear (mi 160 rfl) ?_
  refine ex_ls (ls' := [(0, .ref x), (1, .int (nI 0))]) ⟨rfl, rfl, trivial⟩ ?_
  refine lp_c256 hs ?_
  refine ex_iconst ok_X12_clear (mi 171 rfl) ?_
  refine ex_istore_n ok_X12_clear (mi 172 rfl) ?_
  refine ex_ls (ls' := [(0, .ref x), (1, .int (nI 0))]) ⟨rfl, rfl, trivial⟩ ?_
  refine lp_c278 hs ?_
  refine ex_aload_n ok_X12_clear (mi 183 rfl) rfl ?_
  refine ex_iconst ok_X12_clear (mi 184 rfl) ?_
  refine ex_putIa (a := 0) (v := (nI 0)) ok_X12_clear (mi 185 rfl) rfl rfl (fk hs 0 rfl) (by decide) ?_
  refine ex_iconst ok_X12_clear (mi 186 rfl) ?_
  refine ex_istore_n ok_X12_clear (mi 187 rfl) ?_
  refine ex_ls (ls' := [(0, .ref x), (1, .int (nI 0))]) ⟨rfl, rfl, trivial⟩ ?_
  refine lp_c304 hs ?_
  refine ex_iconst ok_X12_clear (mi 198 rfl) ?_
  refine ex_istore_n ok_X12_clear (mi 199 rfl) ?_
  refine ex_ls (ls' := [(0, .ref x), (1, .int (nI 0))]) ⟨rfl, rfl, trivial⟩ ?_
  refine lp_c326 hs ?_
  refine ex_iconst ok_X12_clear (mi 210 rfl) ?_
  refine ex_istore_n ok_X12_clear (mi 211 rfl) ?_
  refine ex_ls (ls' := [(0, .ref x), (1, .int (nI 0))]) ⟨rfl, rfl, trivial⟩ ?_
  refine lp_c348 hs ?_
  refine ex_iconst ok_X12_clear (mi 222 rfl) ?_
  refine ex_istore_n ok_X12_clear (mi 223 rfl) ?_
  refine ex_ls (ls' := [(0, .ref x), (1, .int (nI 0))]) ⟨rfl, rfl, trivial⟩ ?_
  refine lp_c370 hs ?_
  refine ex_aload_n ok_X12_clear (mi 234 rfl) rfl ?_
  refine ex_iconst ok_X12_clear (mi 235 rfl) ?_
  refine ex_putIa (a := 0) (v := (nI 0)) ok_X12_clear (mi 236 rfl) rfl rfl (fk hs 0 rfl) (by decide) ?_
  refine ex_aload_n ok_X12_clear (mi 237 rfl) rfl ?_
  refine ex_iconst ok_X12_clear (mi 238 rfl) ?_
  refine ex_putIa (a := 0) (v := (nI 0)) ok_X12_clear (mi 239 rfl) rfl rfl (fk hs 0 rfl) (by decide) ?_
  refine ex_aload_n ok_X12_clear (mi 240 rfl) rfl ?_
  refine ex_iconst ok_X12_clear (mi 241 rfl) ?_
  refine ex_putIa (a := 0) (v := (nI 0)) ok_X12_clear (mi 242 rfl) rfl rfl (fk hs 0 rfl) (by decide) ?_
  refine ex_aload_n ok_X12_clear (mi 243 rfl) rfl ?_
  refine ex_iconst ok_X12_clear (mi 244 rfl) ?_
  refine ex_putIa (a := 0) (v := (nI 0)) ok_X12_clear (mi 245 rfl) rfl rfl (fk hs 0 rfl) (by decide) ?_
  refine ex_aload_n ok_X12_clear (mi 246 rfl) rfl ?_
  refine ex_iconst ok_X12_clear (mi 247 rfl) ?_
  refine ex_putIa (a := 0) (v := (nI 0)) ok_X12_clear (mi 248 rfl) rfl rfl (fk hs 0 rfl) (by decide) ?_
  refine ex_vret ok_X12_clear (mi 249 rfl) rfl ?_
  exact ⟨rfl, rfl⟩
