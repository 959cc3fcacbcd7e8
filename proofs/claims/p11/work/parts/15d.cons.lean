/-! ===== heaps that grew; the small constructors ===== -/
def gr (g g1 : GT) : Prop := gx_Z g ≤ gx_Z g1 ∧ ∀ q, q < gx_Z g → gx_K g1 q = gx_K g q ∧ gx_N g1 q = gx_N g q
theorem gr0 {g : GT} : gr g g := ⟨Nat.le_refl _, fun _ _ => ⟨rfl, rfl⟩⟩
theorem gr.trans {g g1 g2 : GT} (h : gr g g1) (h1 : gr g1 g2) : gr g g2 := ⟨Nat.le_trans h.1 h1.1, fun q hq => ⟨((h1.2 q (Nat.lt_of_lt_of_le hq h.1)).1).trans (h.2 q hq).1, ((h1.2 q (Nat.lt_of_lt_of_le hq h.1)).2).trans (h.2 q hq).2⟩⟩
theorem grI {g g1 : GT} {f a : Nat} {v : Int32} (h : gr g g1) : gr g (px_I g1 f a v) := h
theorem grR {g g1 : GT} {f a v : Nat} (h : gr g g1) : gr g (px_R g1 f a v) := h
theorem grO {g g1 : GT} {a j v : Nat} (h : gr g g1) : gr g (px_O g1 a j v) := h
theorem gr_N {g : GT} {k n : Nat} : gr g (px_N g k n) := by
  refine ⟨Nat.le_succ _, fun q hq => ?_⟩
  have h : q ≠ g.2.2.2.2.2.2.2 := Nat.ne_of_lt hq
  exact ⟨if_neg h, if_neg h⟩
theorem grN {g g1 : GT} {k n : Nat} (h : gr g g1) : gr g (px_N g1 k n) := h.trans gr_N
theorem kg {g g1 : GT} {q k : Nat} (h : gr g g1) (hz : q < gx_Z g) (e : gx_K g q = k) : gx_K g1 q = k := ((h.2 q hz).1).trans e
theorem ng {g g1 : GT} {q k : Nat} (h : gr g g1) (hz : q < gx_Z g) (e : gx_N g q = k) : gx_N g1 q = k := ((h.2 q hz).2).trans e
theorem kNew {g : GT} {k n : Nat} : gx_K (px_N g k n) (gx_Z g) = k := if_pos rfl
theorem nNew {g : GT} {k n : Nat} : gx_N (px_N g k n) (gx_Z g) = n := if_pos rfl
theorem hw_I : Cond.arrayClass (newarray.typeOf .int) ∈ lw_tbl := by decide +kernel
theorem hw_L : Cond.arrayClass (newarray.typeOf .long) ∈ lw_tbl := by decide +kernel
theorem hw_B : Cond.arrayClass (newarray.typeOf .boolean) ∈ lw_tbl := by decide +kernel
/-- a new row, noted in a field -/
def px_NR (g : GT) (k n f a : Nat) : GT := px_R (px_N g k n) f a (gx_Z g)
def F_X6_init (g : GT) (a : Nat) : GT := (px_NR g 50 16 608 a)
theorem gr_X6_init (g : GT) (a : Nat) : gr g (F_X6_init g a) := by
  unfold F_X6_init
  exact (grR (grN gr0))
theorem m_X6_init {G : GE} (hst : (ge_l G).stackTraces = false) {a : Nat} {g : GT} (hk : gx_K g a = 7) (hz : a < gx_Z g) : ex_M G 1 1 16 my_X6_init [.ref a] g (fun r g1 => r = .inl none ∧ g1 = F_X6_init g a) := by
  refine ex_M_of ok_X6_init cw_X6_init rfl hst (Nat.le_of_ble_eq_true rfl) ?_
  refine ex_aload_n ok_X6_init (mi 0 rfl) rfl ?_
  refine ex_objInit ok_X6_init (mi 1 rfl) rfl (Nat.le_of_ble_eq_true rfl) ?_
  refine ex_aload_n ok_X6_init (mi 2 rfl) rfl ?_
  refine ex_bipush ok_X6_init (mi 3 rfl) ?_
  refine ex_newa (N := 16) ok_X6_init (mi 4 rfl) (Or.inl ⟨rfl, rfl⟩) (by decide) (by decide) (by decide) hw_I (by omega) (by omega) ?_
  refine ex_putRx ok_X6_init (mi 5 rfl) rfl (kg (grN gr0) hz hk) rfl kNew (by decide) ?_
  refine ex_vret ok_X6_init (mi 6 rfl) rfl ?_
  exact ⟨rfl, rfl⟩
def F_X9_init (g : GT) (a : Nat) (groups : Nat) : GT := (px_R (px_NR (px_NR g 51 1200 901 a) 50 16 902 a) 900 a groups)
theorem gr_X9_init (g : GT) (a : Nat) (groups : Nat) : gr g (F_X9_init g a groups) := by
  unfold F_X9_init
  exact (grR (grR (grN (grR (grN gr0)))))
theorem m_X9_init {G : GE} (hst : (ge_l G).stackTraces = false) {a : Nat} {groups : Nat} {g : GT} (hk : gx_K g a = 10) (hz : a < gx_Z g) (hkg : gx_K g groups = 50) (hzg : groups < gx_Z g) : ex_M G 1 2 1216 my_X9_init [.ref a, .ref groups] g (fun r g1 => r = .inl none ∧ g1 = F_X9_init g a groups) := by
  refine ex_M_of ok_X9_init cw_X9_init rfl hst (Nat.le_of_ble_eq_true rfl) ?_
  refine ex_aload_n ok_X9_init (mi 0 rfl) rfl ?_
  refine ex_objInit ok_X9_init (mi 1 rfl) rfl (Nat.le_of_ble_eq_true rfl) ?_
  refine ex_aload_n ok_X9_init (mi 2 rfl) rfl ?_
  refine ex_sipush ok_X9_init (mi 3 rfl) ?_
  refine ex_newa (N := 1200) ok_X9_init (mi 4 rfl) (Or.inr (Or.inl ⟨rfl, rfl⟩)) (by decide) (by decide) (by decide) hw_L (by omega) (by omega) ?_
  refine ex_putRx ok_X9_init (mi 5 rfl) rfl (kg (grN gr0) hz hk) rfl kNew (by decide) ?_
  refine ex_aload_n ok_X9_init (mi 6 rfl) rfl ?_
  refine ex_bipush ok_X9_init (mi 7 rfl) ?_
  refine ex_newa (N := 16) ok_X9_init (mi 8 rfl) (Or.inl ⟨rfl, rfl⟩) (by decide) (by decide) (by decide) hw_I (by omega) (by omega) ?_
  refine ex_putRx ok_X9_init (mi 9 rfl) rfl (kg (grN (grR (grN gr0))) hz hk) rfl kNew (by decide) ?_
  refine ex_aload_n ok_X9_init (mi 10 rfl) rfl ?_
  refine ex_aload_n ok_X9_init (mi 11 rfl) rfl ?_
  refine ex_putRx ok_X9_init (mi 12 rfl) rfl (kg (grR (grN (grR (grN gr0)))) hz hk) rfl (kg (grR (grN (grR (grN gr0)))) hzg hkg) (by decide) ?_
  refine ex_vret ok_X9_init (mi 13 rfl) rfl ?_
  exact ⟨rfl, rfl⟩
def F_X2_init (g : GT) (a : Nat) (air : Nat) : GT := (px_R (px_NR g 50 48 201 a) 200 a air)
theorem gr_X2_init (g : GT) (a : Nat) (air : Nat) : gr g (F_X2_init g a air) := by
  unfold F_X2_init
  exact (grR (grR (grN gr0)))
theorem m_X2_init {G : GE} (hst : (ge_l G).stackTraces = false) {a : Nat} {air : Nat} {g : GT} (hk : gx_K g a = 3) (hz : a < gx_Z g) (hka : gx_K g air = 1) (hza : air < gx_Z g) : ex_M G 1 1 48 my_X2_init [.ref a, .ref air] g (fun r g1 => r = .inl none ∧ g1 = F_X2_init g a air) := by
  refine ex_M_of ok_X2_init cw_X2_init rfl hst (Nat.le_of_ble_eq_true rfl) ?_
  refine ex_aload_n ok_X2_init (mi 0 rfl) rfl ?_
  refine ex_objInit ok_X2_init (mi 1 rfl) rfl (Nat.le_of_ble_eq_true rfl) ?_
  refine ex_aload_n ok_X2_init (mi 2 rfl) rfl ?_
  refine ex_bipush ok_X2_init (mi 3 rfl) ?_
  refine ex_newa (N := 48) ok_X2_init (mi 4 rfl) (Or.inl ⟨rfl, rfl⟩) (by decide) (by decide) (by decide) hw_I (by omega) (by omega) ?_
  refine ex_putRx ok_X2_init (mi 5 rfl) rfl (kg (grN gr0) hz hk) rfl kNew (by decide) ?_
  refine ex_aload_n ok_X2_init (mi 6 rfl) rfl ?_
  refine ex_aload_n ok_X2_init (mi 7 rfl) rfl ?_
  refine ex_putRx ok_X2_init (mi 8 rfl) rfl (kg (grR (grN gr0)) hz hk) rfl (kg (grR (grN gr0)) hza hka) (by decide) ?_
  refine ex_vret ok_X2_init (mi 9 rfl) rfl ?_
  exact ⟨rfl, rfl⟩
def F_X4_init (g : GT) (a : Nat) (n : Int32) (air : Nat) : GT := (px_R (px_I (px_NR g 50 10 409 a) 400 a n) 401 a air)
theorem gr_X4_init (g : GT) (a : Nat) (n : Int32) (air : Nat) : gr g (F_X4_init g a n air) := by
  unfold F_X4_init
  exact (grR (grI (grR (grN gr0))))
theorem m_X4_init {G : GE} (hst : (ge_l G).stackTraces = false) {a : Nat} {n : Int32} {air : Nat} {g : GT} (hk : gx_K g a = 5) (hz : a < gx_Z g) (hka : gx_K g air = 1) (hza : air < gx_Z g) : ex_M G 1 1 10 my_X4_init [.ref a, .int n, .ref air] g (fun r g1 => r = .inl none ∧ g1 = F_X4_init g a n air) := by
  refine ex_M_of ok_X4_init cw_X4_init rfl hst (Nat.le_of_ble_eq_true rfl) ?_
  refine ex_aload_n ok_X4_init (mi 0 rfl) rfl ?_
  refine ex_objInit ok_X4_init (mi 1 rfl) rfl (Nat.le_of_ble_eq_true rfl) ?_
  refine ex_aload_n ok_X4_init (mi 2 rfl) rfl ?_
  refine ex_bipush ok_X4_init (mi 3 rfl) ?_
  refine ex_newa (N := 10) ok_X4_init (mi 4 rfl) (Or.inl ⟨rfl, rfl⟩) (by decide) (by decide) (by decide) hw_I (by omega) (by omega) ?_
  refine ex_putRx ok_X4_init (mi 5 rfl) rfl (kg (grN gr0) hz hk) rfl kNew (by decide) ?_
  refine ex_aload_n ok_X4_init (mi 6 rfl) rfl ?_
  refine ex_iload_n ok_X4_init (mi 7 rfl) rfl ?_
  refine ex_putI ok_X4_init (mi 8 rfl) rfl (kg (grR (grN gr0)) hz hk) rfl ?_
  refine ex_aload_n ok_X4_init (mi 9 rfl) rfl ?_
  refine ex_aload_n ok_X4_init (mi 10 rfl) rfl ?_
  refine ex_putRx ok_X4_init (mi 11 rfl) rfl (kg (grI (grR (grN gr0))) hz hk) rfl (kg (grI (grR (grN gr0))) hza hka) (by decide) ?_
  refine ex_vret ok_X4_init (mi 12 rfl) rfl ?_
  exact ⟨rfl, rfl⟩
def F_X8_init (g : GT) (a : Nat) (n : Int32) (air : Nat) : GT := (px_R (px_I (px_NR (px_NR (px_NR (px_NR g 50 16 802 a) 50 16 803 a) 50 16 804 a) 50 16 805 a) 800 a n) 801 a air)
theorem gr_X8_init (g : GT) (a : Nat) (n : Int32) (air : Nat) : gr g (F_X8_init g a n air) := by
  unfold F_X8_init
  exact (grR (grI (grR (grN (grR (grN (grR (grN (grR (grN gr0))))))))))
theorem m_X8_init {G : GE} (hst : (ge_l G).stackTraces = false) {a : Nat} {n : Int32} {air : Nat} {g : GT} (hk : gx_K g a = 9) (hz : a < gx_Z g) (hka : gx_K g air = 1) (hza : air < gx_Z g) : ex_M G 1 4 64 my_X8_init [.ref a, .int n, .ref air] g (fun r g1 => r = .inl none ∧ g1 = F_X8_init g a n air) := by
  refine ex_M_of ok_X8_init cw_X8_init rfl hst (Nat.le_of_ble_eq_true rfl) ?_
  refine ex_aload_n ok_X8_init (mi 0 rfl) rfl ?_
  refine ex_objInit ok_X8_init (mi 1 rfl) rfl (Nat.le_of_ble_eq_true rfl) ?_
  refine ex_aload_n ok_X8_init (mi 2 rfl) rfl ?_
  refine ex_bipush ok_X8_init (mi 3 rfl) ?_
  refine ex_newa (N := 16) ok_X8_init (mi 4 rfl) (Or.inl ⟨rfl, rfl⟩) (by decide) (by decide) (by decide) hw_I (by omega) (by omega) ?_
  refine ex_putRx ok_X8_init (mi 5 rfl) rfl (kg (grN gr0) hz hk) rfl kNew (by decide) ?_
  refine ex_aload_n ok_X8_init (mi 6 rfl) rfl ?_
  refine ex_bipush ok_X8_init (mi 7 rfl) ?_
  refine ex_newa (N := 16) ok_X8_init (mi 8 rfl) (Or.inl ⟨rfl, rfl⟩) (by decide) (by decide) (by decide) hw_I (by omega) (by omega) ?_
  refine ex_putRx ok_X8_init (mi 9 rfl) rfl (kg (grN (grR (grN gr0))) hz hk) rfl kNew (by decide) ?_
  refine ex_aload_n ok_X8_init (mi 10 rfl) rfl ?_
  refine ex_bipush ok_X8_init (mi 11 rfl) ?_
  refine ex_newa (N := 16) ok_X8_init (mi 12 rfl) (Or.inl ⟨rfl, rfl⟩) (by decide) (by decide) (by decide) hw_I (by omega) (by omega) ?_
  refine ex_putRx ok_X8_init (mi 13 rfl) rfl (kg (grN (grR (grN (grR (grN gr0))))) hz hk) rfl kNew (by decide) ?_
  refine ex_aload_n ok_X8_init (mi 14 rfl) rfl ?_
  refine ex_bipush ok_X8_init (mi 15 rfl) ?_
  refine ex_newa (N := 16) ok_X8_init (mi 16 rfl) (Or.inl ⟨rfl, rfl⟩) (by decide) (by decide) (by decide) hw_I (by omega) (by omega) ?_
  refine ex_putRx ok_X8_init (mi 17 rfl) rfl (kg (grN (grR (grN (grR (grN (grR (grN gr0))))))) hz hk) rfl kNew (by decide) ?_
  refine ex_aload_n ok_X8_init (mi 18 rfl) rfl ?_
  refine ex_iload_n ok_X8_init (mi 19 rfl) rfl ?_
  refine ex_putI ok_X8_init (mi 20 rfl) rfl (kg (grR (grN (grR (grN (grR (grN (grR (grN gr0)))))))) hz hk) rfl ?_
  refine ex_aload_n ok_X8_init (mi 21 rfl) rfl ?_
  refine ex_aload_n ok_X8_init (mi 22 rfl) rfl ?_
  refine ex_putRx ok_X8_init (mi 23 rfl) rfl (kg (grI (grR (grN (grR (grN (grR (grN (grR (grN gr0))))))))) hz hk) rfl (kg (grI (grR (grN (grR (grN (grR (grN (grR (grN gr0))))))))) hza hka) (by decide) ?_
  refine ex_vret ok_X8_init (mi 24 rfl) rfl ?_
  exact ⟨rfl, rfl⟩
def F_X1_init (g : GT) (a : Nat) : GT := g
theorem gr_X1_init (g : GT) (a : Nat) : gr g (F_X1_init g a) := by
  unfold F_X1_init
  exact gr0
theorem m_X1_init {G : GE} (hst : (ge_l G).stackTraces = false) {a : Nat} {g : GT} (hk : gx_K g a = 2) (hz : a < gx_Z g) : ex_M G 1 0 0 my_X1_init [.ref a] g (fun r g1 => r = .inl none ∧ g1 = F_X1_init g a) := by
  refine ex_M_of ok_X1_init cw_X1_init rfl hst (Nat.le_of_ble_eq_true rfl) ?_
  refine ex_aload_n ok_X1_init (mi 0 rfl) rfl ?_
  refine ex_objInit ok_X1_init (mi 1 rfl) rfl (Nat.le_of_ble_eq_true rfl) ?_
  refine ex_vret ok_X1_init (mi 2 rfl) rfl ?_
  exact ⟨rfl, rfl⟩
def F_X3_init (g : GT) (a : Nat) (n : Int32) (air : Nat) (groups : Nat) : GT := (px_R (px_R (px_I (px_NR g 50 10 307 a) 300 a n) 301 a air) 302 a groups)
theorem gr_X3_init (g : GT) (a : Nat) (n : Int32) (air : Nat) (groups : Nat) : gr g (F_X3_init g a n air groups) := by
  unfold F_X3_init
  exact (grR (grR (grI (grR (grN gr0)))))
theorem m_X3_init {G : GE} (hst : (ge_l G).stackTraces = false) {a : Nat} {n : Int32} {air : Nat} {groups : Nat} {g : GT} (hk : gx_K g a = 4) (hz : a < gx_Z g) (hka : gx_K g air = 1) (hza : air < gx_Z g) (hkg : gx_K g groups = 50) (hzg : groups < gx_Z g) : ex_M G 1 1 10 my_X3_init [.ref a, .int n, .ref air, .ref groups] g (fun r g1 => r = .inl none ∧ g1 = F_X3_init g a n air groups) := by
  refine ex_M_of ok_X3_init cw_X3_init rfl hst (Nat.le_of_ble_eq_true rfl) ?_
  refine ex_aload_n ok_X3_init (mi 0 rfl) rfl ?_
  refine ex_objInit ok_X3_init (mi 1 rfl) rfl (Nat.le_of_ble_eq_true rfl) ?_
  refine ex_aload_n ok_X3_init (mi 2 rfl) rfl ?_
  refine ex_bipush ok_X3_init (mi 3 rfl) ?_
  refine ex_newa (N := 10) ok_X3_init (mi 4 rfl) (Or.inl ⟨rfl, rfl⟩) (by decide) (by decide) (by decide) hw_I (by omega) (by omega) ?_
  refine ex_putRx ok_X3_init (mi 5 rfl) rfl (kg (grN gr0) hz hk) rfl kNew (by decide) ?_
  refine ex_aload_n ok_X3_init (mi 6 rfl) rfl ?_
  refine ex_iload_n ok_X3_init (mi 7 rfl) rfl ?_
  refine ex_putI ok_X3_init (mi 8 rfl) rfl (kg (grR (grN gr0)) hz hk) rfl ?_
  refine ex_aload_n ok_X3_init (mi 9 rfl) rfl ?_
  refine ex_aload_n ok_X3_init (mi 10 rfl) rfl ?_
  refine ex_putRx ok_X3_init (mi 11 rfl) rfl (kg (grI (grR (grN gr0))) hz hk) rfl (kg (grI (grR (grN gr0))) hza hka) (by decide) ?_
  refine ex_aload_n ok_X3_init (mi 12 rfl) rfl ?_
  refine ex_aload_n ok_X3_init (mi 13 rfl) rfl ?_
  refine ex_putRx ok_X3_init (mi 14 rfl) rfl (kg (grR (grI (grR (grN gr0)))) hz hk) rfl (kg (grR (grI (grR (grN gr0)))) hzg hkg) (by decide) ?_
  refine ex_vret ok_X3_init (mi 15 rfl) rfl ?_
  exact ⟨rfl, rfl⟩
def F_X10_init (g : GT) (a : Nat) (n : Int32) (air : Nat) (tally : Nat) : GT := (px_R (px_R (px_I (px_NR g 50 16 1005 a) 1000 a n) 1001 a air) 1002 a tally)
theorem gr_X10_init (g : GT) (a : Nat) (n : Int32) (air : Nat) (tally : Nat) : gr g (F_X10_init g a n air tally) := by
  unfold F_X10_init
  exact (grR (grR (grI (grR (grN gr0)))))
theorem m_X10_init {G : GE} (hst : (ge_l G).stackTraces = false) {a : Nat} {n : Int32} {air : Nat} {tally : Nat} {g : GT} (hk : gx_K g a = 11) (hz : a < gx_Z g) (hka : gx_K g air = 1) (hza : air < gx_Z g) (hkt : gx_K g tally = 10) (hzt : tally < gx_Z g) : ex_M G 1 1 16 my_X10_init [.ref a, .int n, .ref air, .ref tally] g (fun r g1 => r = .inl none ∧ g1 = F_X10_init g a n air tally) := by
  refine ex_M_of ok_X10_init cw_X10_init rfl hst (Nat.le_of_ble_eq_true rfl) ?_
  refine ex_aload_n ok_X10_init (mi 0 rfl) rfl ?_
  refine ex_objInit ok_X10_init (mi 1 rfl) rfl (Nat.le_of_ble_eq_true rfl) ?_
  refine ex_aload_n ok_X10_init (mi 2 rfl) rfl ?_
  refine ex_bipush ok_X10_init (mi 3 rfl) ?_
  refine ex_newa (N := 16) ok_X10_init (mi 4 rfl) (Or.inl ⟨rfl, rfl⟩) (by decide) (by decide) (by decide) hw_I (by omega) (by omega) ?_
  refine ex_putRx ok_X10_init (mi 5 rfl) rfl (kg (grN gr0) hz hk) rfl kNew (by decide) ?_
  refine ex_aload_n ok_X10_init (mi 6 rfl) rfl ?_
  refine ex_iload_n ok_X10_init (mi 7 rfl) rfl ?_
  refine ex_putI ok_X10_init (mi 8 rfl) rfl (kg (grR (grN gr0)) hz hk) rfl ?_
  refine ex_aload_n ok_X10_init (mi 9 rfl) rfl ?_
  refine ex_aload_n ok_X10_init (mi 10 rfl) rfl ?_
  refine ex_putRx ok_X10_init (mi 11 rfl) rfl (kg (grI (grR (grN gr0))) hz hk) rfl (kg (grI (grR (grN gr0))) hza hka) (by decide) ?_
  refine ex_aload_n ok_X10_init (mi 12 rfl) rfl ?_
  refine ex_aload_n ok_X10_init (mi 13 rfl) rfl ?_
  refine ex_putRx ok_X10_init (mi 14 rfl) rfl (kg (grR (grI (grR (grN gr0)))) hz hk) rfl (kg (grR (grI (grR (grN gr0)))) hzt hkt) (by decide) ?_
  refine ex_vret ok_X10_init (mi 15 rfl) rfl ?_
  exact ⟨rfl, rfl⟩
