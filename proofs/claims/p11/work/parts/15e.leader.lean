/-! ===== what stays when a heap grows; Leader's constructor ===== -/
theorem lz {g g1 : GT} {q : Nat} (h : gr g g1) (hz : q < gx_Z g) : q < gx_Z g1 := Nat.lt_of_lt_of_le hz h.1
theorem zNew {g : GT} {k n : Nat} : gx_Z g < gx_Z (px_N g k n) := Nat.lt_succ_self _
def sm (g g1 : GT) (q : Nat) : Prop := gx_K g1 q = gx_K g q ∧ gx_N g1 q = gx_N g q ∧ (∀ f, gx_I g1 f q = gx_I g f q) ∧ (∀ f, gx_R g1 f q = gx_R g f q) ∧ (∀ j, gx_A g1 q j = gx_A g q j) ∧ (∀ j, gx_L g1 q j = gx_L g q j) ∧ ∀ j, gx_O g1 q j = gx_O g q j
theorem sm.refl {g : GT} {q : Nat} : sm g g q := ⟨rfl, rfl, fun _ => rfl, fun _ => rfl, fun _ => rfl, fun _ => rfl, fun _ => rfl⟩
theorem sm.trans {g g1 g2 : GT} {q : Nat} (h : sm g g1 q) (h1 : sm g1 g2 q) : sm g g2 q := ⟨h1.1.trans h.1, h1.2.1.trans h.2.1, fun f => (h1.2.2.1 f).trans (h.2.2.1 f), fun f => (h1.2.2.2.1 f).trans (h.2.2.2.1 f), fun f => (h1.2.2.2.2.1 f).trans (h.2.2.2.2.1 f), fun f => (h1.2.2.2.2.2.1 f).trans (h.2.2.2.2.2.1 f), fun f => (h1.2.2.2.2.2.2 f).trans (h.2.2.2.2.2.2 f)⟩
/-- all old cells are as they were, but for a -/
def gw (g g1 : GT) (a : Nat) : Prop := gr g g1 ∧ ∀ q, q < gx_Z g → q ≠ a → sm g g1 q
theorem gw0 {g : GT} {a : Nat} : gw g g a := ⟨gr0, fun _ _ _ => sm.refl⟩
theorem gw.trans {g g1 g2 : GT} {a : Nat} (h : gw g g1 a) (h1 : gw g1 g2 a) : gw g g2 a := ⟨h.1.trans h1.1, fun q hq hn => (h.2 q hq hn).trans (h1.2 q (lz h.1 hq) hn)⟩
/-- a step that writes at a cell newer than g, or at a -/
theorem gw.step {g g1 g2 : GT} {a b : Nat} (h : gw g g1 a) (h1 : gw g1 g2 b) (hb : b = a ∨ gx_Z g ≤ b) : gw g g2 a := ⟨h.1.trans h1.1, fun q hq hn => (h.2 q hq hn).trans (h1.2 q (lz h.1 hq) (by omega))⟩
theorem gwN {g : GT} {k n a : Nat} : gw g (px_N g k n) a := by
  refine ⟨gr_N, fun q hq _ => ?_⟩
  have h : q ≠ g.2.2.2.2.2.2.2 := Nat.ne_of_lt hq
  exact ⟨if_neg h, if_neg h, fun _ => if_neg h, fun _ => if_neg h, fun _ => if_neg h, fun _ => if_neg h, fun _ => if_neg h⟩
theorem gwR {g : GT} {f a v : Nat} : gw g (px_R g f a v) a := by
  refine ⟨gr0, fun q _ hn => ⟨rfl, rfl, fun _ => rfl, fun f' => if_neg (fun h => hn h.2), fun _ => rfl, fun _ => rfl, fun _ => rfl⟩⟩
theorem gwI {g : GT} {f a : Nat} {v : Int32} : gw g (px_I g f a v) a := by
  refine ⟨gr0, fun q _ hn => ⟨rfl, rfl, fun f' => if_neg (fun h => hn h.2), fun _ => rfl, fun _ => rfl, fun _ => rfl, fun _ => rfl⟩⟩
theorem gwO {g : GT} {a j v : Nat} : gw g (px_O g a j v) a := by
  refine ⟨gr0, fun q _ hn => ⟨rfl, rfl, fun _ => rfl, fun _ => rfl, fun _ => rfl, fun _ => rfl, fun j' => if_neg (fun h => hn h.1)⟩⟩
theorem gwNR {g : GT} {k n f a : Nat} : gw g (px_NR g k n f a) a := gwN.trans gwR
theorem gw_X6_init (g : GT) (a : Nat) : gw g (F_X6_init g a) a := by
  unfold F_X6_init
  exact (gw.trans gw0 gwNR)
theorem gw_X9_init (g : GT) (a : Nat) (groups : Nat) : gw g (F_X9_init g a groups) a := by
  unfold F_X9_init
  exact (gw.trans (gw.trans (gw.trans gw0 gwNR) gwNR) gwR)
theorem gw_X2_init (g : GT) (a : Nat) (air : Nat) : gw g (F_X2_init g a air) a := by
  unfold F_X2_init
  exact (gw.trans (gw.trans gw0 gwNR) gwR)
theorem gw_X4_init (g : GT) (a : Nat) (n : Int32) (air : Nat) : gw g (F_X4_init g a n air) a := by
  unfold F_X4_init
  exact (gw.trans (gw.trans (gw.trans gw0 gwNR) gwI) gwR)
theorem gw_X8_init (g : GT) (a : Nat) (n : Int32) (air : Nat) : gw g (F_X8_init g a n air) a := by
  unfold F_X8_init
  exact (gw.trans (gw.trans (gw.trans (gw.trans (gw.trans (gw.trans gw0 gwNR) gwNR) gwNR) gwNR) gwI) gwR)
theorem gw_X1_init (g : GT) (a : Nat) : gw g (F_X1_init g a) a := by
  unfold F_X1_init
  exact gw0
theorem gw_X3_init (g : GT) (a : Nat) (n : Int32) (air : Nat) (groups : Nat) : gw g (F_X3_init g a n air groups) a := by
  unfold F_X3_init
  exact (gw.trans (gw.trans (gw.trans (gw.trans gw0 gwNR) gwI) gwR) gwR)
theorem gw_X10_init (g : GT) (a : Nat) (n : Int32) (air : Nat) (tally : Nat) : gw g (F_X10_init g a n air tally) a := by
  unfold F_X10_init
  exact (gw.trans (gw.trans (gw.trans (gw.trans gw0 gwNR) gwI) gwR) gwR)
def F_5a (g : GT) (a : Nat) (n : Int32) (air : Nat) : GT := px_R (F_X4_init (px_N g 5 0) (gx_Z g) n air) 503 a (gx_Z g)
def F_5b (g : GT) (a : Nat) (n : Int32) (air : Nat) : GT := px_R (F_X8_init (px_N g 9 0) (gx_Z g) n air) 504 a (gx_Z g)
def F_5c (g : GT) (a : Nat) : GT := px_R (F_X1_init (px_N g 2 0) (gx_Z g)) 505 a (gx_Z g)
def F_5d (g : GT) (a : Nat) (n : Int32) (air groups : Nat) : GT := px_R (px_R (px_I (px_NR (px_NR g 50 10 511 a) 50 16 514 a) 500 a n) 501 a air) 502 a groups
def F_X5_init (g : GT) (a : Nat) (n : Int32) (air groups : Nat) : GT := F_5c (F_5b (F_5a (F_5d g a n air groups) a n air) a n air) a
theorem m_X5_init {G : GE} (hst : (ge_l G).stackTraces = false) {a : Nat} {n : Int32} {air groups : Nat} {g : GT} (hk : gx_K g a = 6) (hz : a < gx_Z g) (hka : gx_K g air = 1) (hza : air < gx_Z g) (hkg : gx_K g groups = 50) (hzg : groups < gx_Z g) : ex_M G 2 10 124 my_X5_init [.ref a, .int n, .ref air, .ref groups] g (fun r g1 => r = .inl none ∧ g1 = F_X5_init g a n air groups) := by
  refine ex_M_of ok_X5_init cw_X5_init rfl hst (Nat.le_of_ble_eq_true rfl) ?_
  refine ex_aload_n ok_X5_init (mi 0 rfl) rfl ?_
  refine ex_objInit ok_X5_init (mi 1 rfl) rfl (Nat.le_of_ble_eq_true rfl) ?_
  refine ex_aload_n ok_X5_init (mi 2 rfl) rfl ?_
  refine ex_bipush ok_X5_init (mi 3 rfl) ?_
  refine ex_newa (N := 10) ok_X5_init (mi 4 rfl) (Or.inl ⟨rfl, rfl⟩) (by decide) (by decide) (by decide) hw_I (by omega) (by omega) ?_
  refine ex_putRx ok_X5_init (mi 5 rfl) rfl (kg (grN gr0) hz hk) rfl kNew (by decide) ?_
  refine ex_aload_n ok_X5_init (mi 6 rfl) rfl ?_
  refine ex_bipush ok_X5_init (mi 7 rfl) ?_
  refine ex_newa (N := 16) ok_X5_init (mi 8 rfl) (Or.inl ⟨rfl, rfl⟩) (by decide) (by decide) (by decide) hw_I (by omega) (by omega) ?_
  refine ex_putRx ok_X5_init (mi 9 rfl) rfl (kg (grN (grR (grN gr0))) hz hk) rfl kNew (by decide) ?_
  refine ex_aload_n ok_X5_init (mi 10 rfl) rfl ?_
  refine ex_iload_n ok_X5_init (mi 11 rfl) rfl ?_
  refine ex_putI ok_X5_init (mi 12 rfl) rfl (kg (grR (grN (grR (grN gr0)))) hz hk) rfl ?_
  refine ex_aload_n ok_X5_init (mi 13 rfl) rfl ?_
  refine ex_aload_n ok_X5_init (mi 14 rfl) rfl ?_
  refine ex_putRx ok_X5_init (mi 15 rfl) rfl (kg (grI (grR (grN (grR (grN gr0))))) hz hk) rfl (kg (grI (grR (grN (grR (grN gr0))))) hza hka) (by decide) ?_
  refine ex_aload_n ok_X5_init (mi 16 rfl) rfl ?_
  refine ex_aload_n ok_X5_init (mi 17 rfl) rfl ?_
  refine ex_putRx ok_X5_init (mi 18 rfl) rfl (kg (grR (grI (grR (grN (grR (grN gr0)))))) hz hk) rfl (kg (grR (grI (grR (grN (grR (grN gr0)))))) hzg hkg) (by decide) ?_
  refine ex_aload_n ok_X5_init (mi 19 rfl) rfl ?_
  refine ex_new ok_X5_init (mi 20 rfl) rfl (by decide) (by omega) (by rw [show cx_N 4 = 12 from rfl]; omega) ?_
  rw [show cx_N 4 = 12 from rfl]
  refine ex_dup ok_X5_init (mi 21 rfl) rfl ?_
  refine ex_iload_n ok_X5_init (mi 22 rfl) rfl ?_
  refine ex_aload_n ok_X5_init (mi 23 rfl) rfl ?_
  refine ex_callIp ok_X5_init (mi 24 rfl) rfl (m_X4_init hst kNew zNew (kg (grN (grR (grR (grI (grR (grN (grR (grN gr0)))))))) hza hka) (lz (grN (grR (grR (grI (grR (grN (grR (grN gr0)))))))) hza)) rfl rfl rfl rfl (by decide) (Nat.le_of_ble_eq_true rfl) ⟨by omega, by omega⟩ (fun g9 e9 => ?_)
  subst e9
  refine ex_putRx ok_X5_init (mi 25 rfl) rfl (kg (gr.trans (grN (grR (grR (grI (grR (grN (grR (grN gr0)))))))) (gr_X4_init _ _ _ _)) hz hk) rfl (kg (gr_X4_init _ _ _ _) zNew kNew) (by decide) ?_
  refine ex_aload_n ok_X5_init (mi 26 rfl) rfl ?_
  refine ex_new ok_X5_init (mi 27 rfl) rfl (by decide) (by omega) (by rw [show cx_N 8 = 6 from rfl]; omega) ?_
  rw [show cx_N 8 = 6 from rfl]
  refine ex_dup ok_X5_init (mi 28 rfl) rfl ?_
  refine ex_iload_n ok_X5_init (mi 29 rfl) rfl ?_
  refine ex_aload_n ok_X5_init (mi 30 rfl) rfl ?_
  refine ex_callIp ok_X5_init (mi 31 rfl) rfl (m_X8_init hst kNew zNew (kg (grN (grR (gr.trans (grN (grR (grR (grI (grR (grN (grR (grN gr0)))))))) (gr_X4_init _ _ _ _)))) hza hka) (lz (grN (grR (gr.trans (grN (grR (grR (grI (grR (grN (grR (grN gr0)))))))) (gr_X4_init _ _ _ _)))) hza)) rfl rfl rfl rfl (by decide) (Nat.le_of_ble_eq_true rfl) ⟨by omega, by omega⟩ (fun g9 e9 => ?_)
  subst e9
  refine ex_putRx ok_X5_init (mi 32 rfl) rfl (kg (gr.trans (grN (grR (gr.trans (grN (grR (grR (grI (grR (grN (grR (grN gr0)))))))) (gr_X4_init _ _ _ _)))) (gr_X8_init _ _ _ _)) hz hk) rfl (kg (gr_X8_init _ _ _ _) zNew kNew) (by decide) ?_
  refine ex_aload_n ok_X5_init (mi 33 rfl) rfl ?_
  refine ex_new ok_X5_init (mi 34 rfl) rfl (by decide) (by omega) (by rw [show cx_N 1 = 6 from rfl]; omega) ?_
  rw [show cx_N 1 = 6 from rfl]
  refine ex_dup ok_X5_init (mi 35 rfl) rfl ?_
  refine ex_callINp ok_X5_init (mi 36 rfl) rfl (m_X1_init hst kNew zNew) rfl (List.mem_of_getElem? (i := 1) rfl) rfl rfl rfl (by decide) (Nat.le_of_ble_eq_true rfl) ⟨by omega, by omega⟩ (fun g9 e9 => ?_)
  subst e9
  refine ex_putRx ok_X5_init (mi 37 rfl) rfl (kg (gr.trans (grN (grR (gr.trans (grN (grR (gr.trans (grN (grR (grR (grI (grR (grN (grR (grN gr0)))))))) (gr_X4_init _ _ _ _)))) (gr_X8_init _ _ _ _)))) (gr_X1_init _ _)) hz hk) rfl (kg (gr_X1_init _ _) zNew kNew) (by decide) ?_
  refine ex_vret ok_X5_init (mi 38 rfl) rfl ?_
  exact ⟨rfl, rfl⟩
theorem gw_5d (g : GT) (a : Nat) (n : Int32) (air groups : Nat) : gw g (F_5d g a n air groups) a := by
  unfold F_5d
  exact (((gwNR.trans gwNR).trans gwI).trans gwR).trans gwR
theorem gw_new {g g2 : GT} {k a : Nat} (ha : a < gx_Z g) (h : gw (px_N g k 0) g2 (gx_Z g)) {f : Nat} : gw g (px_R g2 f a (gx_Z g)) a :=
  ((gwN (a := a)).step h (Or.inr (Nat.le_refl _))).trans gwR
theorem gw_X5_init (g : GT) (a : Nat) (n : Int32) (air groups : Nat) (ha : a < gx_Z g) : gw g (F_X5_init g a n air groups) a := by
  unfold F_X5_init F_5c F_5b F_5a
  have h1 := gw_5d g a n air groups
  have h2 := h1.trans (gw_new (lz h1.1 ha) (gw_X4_init (px_N (F_5d g a n air groups) 5 0) (gx_Z (F_5d g a n air groups)) n air) (f := 503))
  have h3 := h2.trans (gw_new (lz h2.1 ha) (gw_X8_init (px_N _ 9 0) (gx_Z _) n air) (f := 504))
  exact h3.trans (gw_new (lz h3.1 ha) (gw_X1_init (px_N _ 2 0) (gx_Z _)) (f := 505))
