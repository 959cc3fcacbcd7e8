/-! ===== the object under construction: what is known of its cells, by tables of offsets from its own address x ===== -/
def ST (g0 h : GT) (x n m : Nat) (T : List (Nat × Nat × Nat) × List (Nat × Nat × Nat)) (O : List (Nat × Nat × Nat)) (I : List (Nat × Nat × Int32)) : Prop :=
  gx_Z h = x + n ∧ sh T h x ∧ (∀ q ∈ O, gx_O h (x + q.1) q.2.1 = x + q.2.2) ∧ (∀ q ∈ I, gx_I h q.2.1 (x + q.1) = q.2.2) ∧
  ((∀ q ∈ T.1, q.1 < n) ∧ (∀ q ∈ T.2, q.1 < n) ∧ (∀ q ∈ O, q.1 < n) ∧ (∀ q ∈ I, q.1 < n) ∧ 0 < n) ∧
  (m = 0 ∨ 807 ≤ n) ∧ (∀ j, j < m → j < 400 → gx_O h (x + 2) j = x + 3 + 2 * j) ∧ (∀ j, j < m → j < 402 → sh T6 h (x + 3 + 2 * j)) ∧ ∀ q, q < x → sm g0 h q
theorem ST_obj {g0 h h1 : GT} {x n m w : Nat} {T T' : List (Nat × Nat × Nat) × List (Nat × Nat × Nat)} {O : List (Nat × Nat × Nat)} {I : List (Nat × Nat × Int32)} (R' : List (Nat × Nat × Nat)) (I' : List (Nat × Nat × Int32)) (s : ST g0 h x n m T O I) (hz : gx_Z h1 = gx_Z h + w) (hs : ∀ q, q < gx_Z h → sm h h1 q) (e : sh T' h1 (gx_Z h)) (hR : ∀ q ∈ R', gx_R h1 q.2.1 (x + q.1) = x + q.2.2) (hI : ∀ q ∈ I', gx_I h1 q.2.1 (x + q.1) = q.2.2)
    (b1 : ∀ q ∈ T'.1, q.1 < w) (b2 : ∀ q ∈ T'.2, q.1 < w) (b3 : ∀ q ∈ R', q.1 < n + w) (b4 : ∀ q ∈ I', q.1 < n + w) :
    ST g0 h1 x (n + w) m (T.1 ++ T'.1.map (fun q => (n + q.1, q.2)), T.2 ++ (T'.2.map (fun q => (n + q.1, q.2.1, n + q.2.2)) ++ R')) O (I ++ I') := by
  obtain ⟨s1, s2, s3, s4, ⟨c1, c2, c3, c4, c5⟩, s5, s6, s7, s8⟩ := s
  have hlt : ∀ k, k < n → x + k < gx_Z h := fun k hk => by omega
  refine ⟨by omega, ⟨fun q hq => ?_, fun q hq => ?_⟩, fun q hq => ?_, fun q hq => ?_, ⟨fun q hq => ?_, fun q hq => ?_, fun q hq => ?_, fun q hq => ?_, by omega⟩, by omega, fun j h1 h2 => ?_, fun j h1 h2 => ?_, fun q hq => (s8 q hq).trans (hs q (by omega))⟩
  · rcases List.mem_append.mp hq with hq | hq
    · have k := hs _ (hlt _ (c1 q hq))
      exact ⟨k.1.trans (s2.1 q hq).1, k.2.1.trans (s2.1 q hq).2⟩
    · obtain ⟨r, hr, rfl⟩ := List.mem_map.mp hq
      have k := e.1 r hr
      rw [s1, Nat.add_assoc] at k
      exact k
  · rcases List.mem_append.mp hq with hq | hq
    · exact ((hs _ (hlt _ (c2 q hq))).2.2.2.1 _).trans (s2.2 q hq)
    · rcases List.mem_append.mp hq with hq | hq
      · obtain ⟨r, hr, rfl⟩ := List.mem_map.mp hq
        have k := e.2 r hr
        rw [s1, Nat.add_assoc, Nat.add_assoc] at k
        exact k
      · exact hR q hq
  · exact ((hs _ (hlt _ (c3 q hq))).2.2.2.2.2.2 _).trans (s3 q hq)
  · rcases List.mem_append.mp hq with hq | hq
    · exact ((hs _ (hlt _ (c4 q hq))).2.2.1 _).trans (s4 q hq)
    · exact hI q hq
  · rcases List.mem_append.mp hq with hq | hq
    · have := c1 q hq; omega
    · obtain ⟨r, hr, rfl⟩ := List.mem_map.mp hq
      have := b1 r hr
      show n + r.1 < n + w
      omega
  · rcases List.mem_append.mp hq with hq | hq
    · have := c2 q hq; omega
    · rcases List.mem_append.mp hq with hq | hq
      · obtain ⟨r, hr, rfl⟩ := List.mem_map.mp hq
        have := b2 r hr
        show n + r.1 < n + w
        omega
      · exact b3 q hq
  · have := c3 q hq; omega
  · rcases List.mem_append.mp hq with hq | hq
    · have := c4 q hq; omega
    · exact b4 q hq
  · exact ((hs _ (hlt 2 (by omega))).2.2.2.2.2.2 _).trans (s6 j h1 h2)
  · exact shw 2 (by decide) (by decide) (fun c d1 d2 => hs c (by omega)) (s7 j h1 h2)
theorem ST_R {g0 h : GT} {x n m : Nat} {T : List (Nat × Nat × Nat) × List (Nat × Nat × Nat)} {O : List (Nat × Nat × Nat)} {I : List (Nat × Nat × Int32)} (f t : Nat) (s : ST g0 h x n m T O I) (hn : ∀ q ∈ T.2, ¬ (q.1 = 0 ∧ q.2.1 = f)) : ST g0 (px_R h f x (x + t)) x n m (T.1, T.2 ++ [(0, f, t)]) O I := by
  obtain ⟨s1, s2, s3, s4, ⟨c1, c2, c3, c4, c5⟩, s5, s6, s7, s8⟩ := s
  refine ⟨s1, ⟨s2.1, fun q hq => ?_⟩, s3, s4, ⟨c1, fun q hq => ?_, c3, c4, c5⟩, s5, s6, fun j h1 h2 => ⟨(s7 j h1 h2).1, fun q hq => ?_⟩, fun q hq => (s8 q hq).trans (gwR.2 q (by omega) (by omega))⟩
  · rcases List.mem_append.mp hq with hq | hq
    · rw [gxR_R, if_neg (fun k => hn q hq ⟨by omega, k.1⟩)]
      exact s2.2 q hq
    · obtain rfl := List.mem_singleton.mp hq
      rw [gxR_R, if_pos ⟨rfl, rfl⟩]
  · rcases List.mem_append.mp hq with hq | hq
    · exact c2 q hq
    · obtain rfl := List.mem_singleton.mp hq
      exact c5
  · rw [gxR_R, if_neg (fun k => by omega)]
    exact (s7 j h1 h2).2 q hq
theorem ST_O {g0 h : GT} {x n m : Nat} {T : List (Nat × Nat × Nat) × List (Nat × Nat × Nat)} {O : List (Nat × Nat × Nat)} {I : List (Nat × Nat × Int32)} (a j t : Nat) (s : ST g0 h x n m T O I) (ha : a < n) (h2 : a ≠ 2) (hn : ∀ q ∈ O, ¬ (q.1 = a ∧ q.2.1 = j)) : ST g0 (px_O h (x + a) j (x + t)) x n m T (O ++ [(a, j, t)]) I := by
  obtain ⟨s1, s2, s3, s4, ⟨c1, c2, c3, c4, c5⟩, s5, s6, s7, s8⟩ := s
  refine ⟨s1, s2, fun q hq => ?_, s4, ⟨c1, c2, fun q hq => ?_, c4, c5⟩, s5, fun i h3 h4 => ?_, s7, fun q hq => (s8 q hq).trans (gwO.2 q (by omega) (by omega))⟩
  · show (if x + q.1 = x + a ∧ q.2.1 = j then x + t else gx_O h (x + q.1) q.2.1) = _
    rcases List.mem_append.mp hq with hq | hq
    · rw [if_neg (fun k => hn q hq ⟨by omega, k.2⟩)]
      exact s3 q hq
    · obtain rfl := List.mem_singleton.mp hq
      rw [if_pos ⟨rfl, rfl⟩]
  · rcases List.mem_append.mp hq with hq | hq
    · exact c3 q hq
    · obtain rfl := List.mem_singleton.mp hq
      exact ha
  · show (if x + 2 = x + a ∧ i = j then x + t else gx_O h (x + 2) i) = _
    rw [if_neg (fun k => by omega)]
    exact s6 i h3 h4
theorem ST_N {g0 h : GT} {x n m k l : Nat} {T : List (Nat × Nat × Nat) × List (Nat × Nat × Nat)} {O : List (Nat × Nat × Nat)} {I : List (Nat × Nat × Int32)} (s : ST g0 h x n m T O I) : ST g0 (px_N h k l) x (n + 1) m (T.1 ++ [(n, k, l)], T.2 ++ []) O (I ++ []) := by
  have hz := s.1
  exact ST_obj (T' := ([(0, k, l)], [])) [] [] s rfl (fun q hq => (gwN (a := gx_Z h)).2 q hq (Nat.ne_of_lt hq)) ⟨fun q hq => by
    obtain rfl := List.mem_singleton.mp hq
    exact ⟨kNew, nNew⟩, fun q hq => nomatch hq⟩ (fun q hq => nomatch hq) (fun q hq => nomatch hq) (fun q hq => by
    obtain rfl := List.mem_singleton.mp hq
    exact Nat.zero_lt_one) (fun q hq => nomatch hq) (fun q hq => nomatch hq) (fun q hq => nomatch hq)
section ES
variable {G : GE} {d mc ms : Nat} {M : MT} {pc : Nat} {ls : List (Nat × Value)} {st : List Value} {g0 h : GT} {Q : RT → GT → Prop} {x n m : Nat} {T : List (Nat × Nat × Nat) × List (Nat × Nat × Nat)} {O : List (Nat × Nat × Nat)} {I : List (Nat × Nat × Int32)}
/-- a reference noted in the object's own field -/
theorem ST_put {idx j t v kx : Nat} (hM : mt_ok M = true) (hf : mt_in M pc (.putfield idx) 3) (hp : (mt_f M).lookup idx = some (11, j)) (hr : fx_R 11 j = true) (s : ST g0 h x n m T O I) (hk : gx_K h x = 12) (hv : v = x + t) (hkx : gx_K h (x + t) = kx) (hd : 0 < kx ∧ kx < 60) (hn : ∀ q ∈ T.2, ¬ (q.1 = 0 ∧ q.2.1 = 100 * 11 + j))
    (k : ∀ h1, ST g0 h1 x n m (T.1, T.2 ++ [(0, 100 * 11 + j, t)]) O I → ex_W G d mc ms M (pc + 3) ls st h1 Q) : ex_W G d mc ms M pc ls (.ref v :: .ref x :: st) h Q := by
  subst hv
  exact ex_putRx hM hf hp hk hr hkx hd (k _ (ST_R (100 * 11 + j) t s hn))
/-- an object noted in one of the object's own rows -/
theorem ST_aast {a n1 t v i : Nat} {w : Int32} (hM : mt_ok M = true) (hf : mt_in M pc (.aastore) 1) (hn1 : n1 < 4) (s : ST g0 h x n m T O I) (hk : gx_K h (x + a) = 53 + n1) {N : Nat} (hN : gx_N h (x + a) = N) (hw : w = nI i) (hi : i < N) (hb : N < 2 ^ 31) (hv : v = x + t) (hkv : gx_K h (x + t) = ax_ci n1 + 1) (ha : a < n) (h2 : a ≠ 2) (hn : ∀ q ∈ O, ¬ (q.1 = a ∧ q.2.1 = i))
    (k : ∀ h1, ST g0 h1 x n m T (O ++ [(a, i, t)]) I → ex_W G d mc ms M (pc + 1) ls st h1 Q) : ex_W G d mc ms M pc ls (.ref v :: .int w :: .ref (x + a) :: st) h Q := by
  subst hv hw
  refine ex_aast hM hf hn1 hk hkv (by rw [hN]; exact vp_in_nI hi hb) ?_
  rw [nI_clamp (by omega)]
  exact k _ (ST_O a i t s ha h2 hn)
end ES
