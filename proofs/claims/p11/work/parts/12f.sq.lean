/-! ===== heaps of one shape: kinds, lengths, references, size ===== -/
def sq (g g1 : GT) : Prop := g1.1 = g.1 ∧ g1.2.1 = g.2.1 ∧ g1.2.2.2.1 = g.2.2.2.1 ∧ g1.2.2.2.2.2.2.1 = g.2.2.2.2.2.2.1 ∧ g1.2.2.2.2.2.2.2 = g.2.2.2.2.2.2.2
theorem sq0 {g : GT} : sq g g := ⟨rfl, rfl, rfl, rfl, rfl⟩
theorem sq.trans {g g1 g2 : GT} (h : sq g g1) (h1 : sq g1 g2) : sq g g2 := ⟨h1.1.trans h.1, h1.2.1.trans h.2.1, h1.2.2.1.trans h.2.2.1, h1.2.2.2.1.trans h.2.2.2.1, h1.2.2.2.2.trans h.2.2.2.2⟩
theorem sqI {g g1 : GT} {f a : Nat} {v : Int32} (h : sq g g1) : sq g (px_I g1 f a v) := h
theorem sqA {g g1 : GT} {a j : Nat} {v : Int32} (h : sq g g1) : sq g (px_A g1 a j v) := h
theorem sqL {g g1 : GT} {a j : Nat} {v : Int64} (h : sq g g1) : sq g (px_L g1 a j v) := h
theorem sqF {g g1 : GT} {a lo hi : Nat} {v : Int32} (h : sq g g1) : sq g (px_F g1 a lo hi v) := h
theorem sqFL {g g1 : GT} {a lo hi : Nat} {v : Int64} (h : sq g g1) : sq g (px_FL g1 a lo hi v) := h
theorem kq {g g1 : GT} {q k : Nat} (h : sq g g1) (e : gx_K g q = k) : gx_K g1 q = k := (congrFun h.1 q).trans e
theorem nq {g g1 : GT} {q k : Nat} (h : sq g g1) (e : gx_N g q = k) : gx_N g1 q = k := (congrFun h.2.1 q).trans e
theorem rq {g g1 : GT} {f q k : Nat} (h : sq g g1) (e : gx_R g f q = k) : gx_R g1 f q = k := (congrFun (congrFun h.2.2.1 f) q).trans e
theorem oq {g g1 : GT} {q j k : Nat} (h : sq g g1) (e : gx_O g q j = k) : gx_O g1 q j = k := (congrFun (congrFun h.2.2.2.1 q) j).trans e
theorem zq {g g1 : GT} {k : Nat} (h : sq g g1) (e : gx_Z g = k) : gx_Z g1 = k := h.2.2.2.2.trans e
theorem shq {T : List (Nat × Nat × Nat) × List (Nat × Nat × Nat)} {g g1 : GT} {a : Nat} (h : sq g g1) (e : sh T g a) : sh T g1 a := ⟨fun q hq => ⟨kq h (e.1 q hq).1, nq h (e.1 q hq).2⟩, fun q hq => rq h (e.2 q hq)⟩
