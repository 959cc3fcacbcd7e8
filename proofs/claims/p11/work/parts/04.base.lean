/-! ===== THE PURE HEAP: every cell of ours by its address; fields by number (100 * class + slot); null is 0 ===== -/
abbrev GT : Type := (Nat → Nat) × (Nat → Nat) × (Nat → Nat → Int32) × (Nat → Nat → Nat) × (Nat → Nat → Int32) × (Nat → Nat → Int64) × (Nat → Nat → Nat) × Nat
/-- kinds: 0 not ours; k + 1 an object of class k; 50 int[], 51 long[], 52 boolean[], 53 .. 56 arrays of references; 60 the script -/
def gx_K (g : GT) (a : Nat) : Nat := g.1 a
def gx_N (g : GT) (a : Nat) : Nat := g.2.1 a
def gx_I (g : GT) (f a : Nat) : Int32 := g.2.2.1 f a
def gx_R (g : GT) (f a : Nat) : Nat := g.2.2.2.1 f a
def gx_A (g : GT) (a j : Nat) : Int32 := g.2.2.2.2.1 a j
def gx_L (g : GT) (a j : Nat) : Int64 := g.2.2.2.2.2.1 a j
def gx_O (g : GT) (a j : Nat) : Nat := g.2.2.2.2.2.2.1 a j
def gx_Z (g : GT) : Nat := g.2.2.2.2.2.2.2
def gx_u {α : Type} (f : Nat → Nat → α) (i j : Nat) (v : α) : Nat → Nat → α := fun x y => if x = i ∧ y = j then v else f x y
def px_I (g : GT) (f a : Nat) (v : Int32) : GT := (g.1, g.2.1, gx_u g.2.2.1 f a v, g.2.2.2)
def px_R (g : GT) (f a : Nat) (v : Nat) : GT := (g.1, g.2.1, g.2.2.1, gx_u g.2.2.2.1 f a v, g.2.2.2.2)
def px_A (g : GT) (a j : Nat) (v : Int32) : GT := (g.1, g.2.1, g.2.2.1, g.2.2.2.1, gx_u g.2.2.2.2.1 a j v, g.2.2.2.2.2)
def px_L (g : GT) (a j : Nat) (v : Int64) : GT := (g.1, g.2.1, g.2.2.1, g.2.2.2.1, g.2.2.2.2.1, gx_u g.2.2.2.2.2.1 a j v, g.2.2.2.2.2.2)
def px_O (g : GT) (a j : Nat) (v : Nat) : GT := (g.1, g.2.1, g.2.2.1, g.2.2.2.1, g.2.2.2.2.1, g.2.2.2.2.2.1, gx_u g.2.2.2.2.2.2.1 a j v, g.2.2.2.2.2.2.2)
/-- a new cell at the heap's end: kind k, length n, all zero -/
def px_N (g : GT) (k n : Nat) : GT := (fun a => if a = g.2.2.2.2.2.2.2 then k else g.1 a, fun a => if a = g.2.2.2.2.2.2.2 then n else g.2.1 a, fun f a => if a = g.2.2.2.2.2.2.2 then 0 else g.2.2.1 f a, fun f a => if a = g.2.2.2.2.2.2.2 then 0 else g.2.2.2.1 f a, fun a j => if a = g.2.2.2.2.2.2.2 then 0 else g.2.2.2.2.1 a j, fun a j => if a = g.2.2.2.2.2.2.2 then 0 else g.2.2.2.2.2.1 a j, fun a j => if a = g.2.2.2.2.2.2.2 then 0 else g.2.2.2.2.2.2.1 a j, g.2.2.2.2.2.2.2 + 1)
/-- cells that aren't ours were made (an exception) -/
def px_Z (g : GT) (n : Nat) : GT := (g.1, g.2.1, g.2.2.1, g.2.2.2.1, g.2.2.2.2.1, g.2.2.2.2.2.1, g.2.2.2.2.2.2.1, n)
/-- rows of an int array are copied -/
def px_C (g : GT) (src sp dst dp n : Nat) : GT := (g.1, g.2.1, g.2.2.1, g.2.2.2.1, fun a j => if a = dst ∧ dp ≤ j ∧ j < dp + n then g.2.2.2.2.1 src (sp + (j - dp)) else g.2.2.2.2.1 a j, g.2.2.2.2.2)
/-! which fields are references: by class and slot -/
def fx_tab : List (List Bool) := [[true, true, true, false, false, false, false], [false, false, false, false, false, false], [true, true, false], [false, true, true, false, false, false, false, true, false, false, false, false], [false, true, false, false, false, false, false, false, false, true, false, false], [false, true, true, true, true, true, false, false, false, false, false, true, false, false, true, false, false], [false, false, false, false, false, false, false, false, true], [false, false, false, false, false, false], [false, true, true, true, true, true], [true, true, true, false, false], [false, true, true, false, false, true], [true, true, true, true, true, true, true, true, false, false], [false, true, true, true, true, true, true, true, true, true, true, true, true, true, true, true, true, true, true, true, true, true, true, true, true, true, true, true, true, true, true, true, true, true, true, true, true, true, true, true, true, true, true, true, true, true, true, true, false, true, true, true, true, true, true, true, true, true, false, true, true, true, false, false, false, false, false]]
def fx_R (ci j : Nat) : Bool := (fx_tab.getD ci []).getD j false
def fx_v (x : Nat) : Value := if x = 0 then .null else .ref x
def fx_V (g : GT) (ci a : Nat) (j : Nat) : Value := if fx_R ci j = true then fx_v (gx_R g (100 * ci + j) a) else .int (gx_I g (100 * ci + j) a)
/-- the classes whose objects there are; of class 7 (Rounds) there are none: class 1 stands there again -/
abbrev cx_cl : List vw_C := [(RX0, TX0, 7), (RX1, TX1, 6), (RX2, TX2, 3), (RX3, TX3, 12), (RX4, TX4, 12), (RX5, TX5, 17), (RX6, TX6, 9), (RX1, TX1, 6), (RX8, TX8, 6), (RX9, TX9, 5), (RX10, TX10, 6), (RX11, TX11, 10), (RX12, TX12, 67)]
def cx_ty (ci : Nat) : Nat → FieldType := match ci with
  | 0 => tyX0 | 1 => tyX1 | 2 => tyX2 | 3 => tyX3 | 4 => tyX4 | 5 => tyX5 | 6 => tyX6 | 7 => tyX1 | 8 => tyX8 | 9 => tyX9 | 10 => tyX10 | 11 => tyX11 | _ => tyX12
/-! what a launch and a run fix: the launch, the classes' numbers and slots, the arrays' classes, where our cells begin -/
abbrev GE : Type := Launch × va_G × (Nat → ClassId) × Nat
def ge_l (G : GE) : Launch := G.1
def ge_D (G : GE) : va_G := G.2.1
def ge_A (G : GE) : Nat → ClassId := G.2.2.1
def ge_b (G : GE) : Nat := G.2.2.2
abbrev cx_tys (G : GE) : List (ClassId × FieldType) := [(ge_A G 0, .int), (ge_A G 1, .long), (ge_A G 2, .boolean), (ge_A G 3, .object RX6), (ge_A G 4, .object RX5), (ge_A G 5, .object RX3), (ge_A G 6, .object RX10)]
/-- the cell at a is what the pure heap says of its kind -/
def gx_cell (G : GE) (U : State) (g : GT) (H : Heap) (a : Nat) : Prop :=
  (∀ ci, gx_K g a = ci + 1 → ci < 13 → ∃ r : vw_C, cx_cl[ci]? = some r ∧ t_OB a ((ge_D G).1 ci) r.2.2 ((ge_D G).2 ci) H (fx_V g ci a)) ∧
  (gx_K g a = 50 → H[a]? = some (arrV (ge_A G 0) (gx_N g a) (fun j => .int (gx_A g a j)))) ∧
  (gx_K g a = 51 → H[a]? = some (arrV (ge_A G 1) (gx_N g a) (fun j => .long (gx_L g a j)))) ∧
  (gx_K g a = 52 → H[a]? = some (arrV (ge_A G 2) (gx_N g a) (fun j => .int (gx_A g a j)))) ∧
  (∀ i, i < 4 → gx_K g a = 53 + i → H[a]? = some (arrV (ge_A G (3 + i)) (gx_N g a) (fun j => fx_v (gx_O g a j)))) ∧
  (gx_K g a = 60 → ∃ scr : Cell, H[a]? = some scr ∧ U.isArrayOf scr .int ∧ scr.vm ≠ .unknown ∧ scr.slots.size = gx_N g a ∧ ∀ j : Nat, j < gx_N g a → scr.slots[j]? = some (.int (gx_A g a j)))
def gx_H (G : GE) (U : State) (g : GT) (H : Heap) : Prop :=
  H.size = gx_Z g ∧ (0 < ge_b G ∧ ge_b G ≤ gx_Z g) ∧ (∀ a, gx_K g a ≠ 0 → a < gx_Z g ∧ (gx_K g a < 60 → ge_b G ≤ a) ∧ gx_K g a ≤ 60) ∧ (∀ a, gx_K g a ≠ 0 → gx_cell G U g H a) ∧
  vx_Zq Bundle.tN "UNASSIGNED_STACK" Bundle.steD (fun q => ge_b G ≤ q) U H ∧ vx_Zq Bundle.tN "SUPPRESSED_SENTINEL" Bundle.listD (fun q => ge_b G ≤ q) U H
theorem gx_cell.moved {G : GE} {u U : State} {g : GT} {H : Heap} {a : Nat} (hvm : u.vm.Alike U.vm) (h : gx_cell G u g H a) : gx_cell G U g H a := by
  obtain ⟨h1, h2, h3, h4, h5, h6⟩ := h
  refine ⟨h1, h2, h3, h4, h5, fun hk => ?_⟩
  obtain ⟨scr, q1, q2, q3⟩ := h6 hk
  exact ⟨scr, q1, State.isArrayOf_alike hvm q2, q3⟩
theorem gx_H.moved {G : GE} {u U : State} {g : GT} {H : Heap} (hvm : u.vm.Alike U.vm) (h : gx_H G u g H) : gx_H G U g H :=
  ⟨h.1, h.2.1, h.2.2.1, fun a ha => (h.2.2.2.1 a ha).moved hvm, vx_Zq.moved hvm h.2.2.2.2.1, vx_Zq.moved hvm h.2.2.2.2.2⟩
theorem gx_cell.kept {G : GE} {U : State} {g : GT} {H H1 : Heap} {a : Nat} (hq : H1[a]? = H[a]?) (h : gx_cell G U g H a) : gx_cell G U g H1 a := by
  obtain ⟨h1, h2, h3, h4, h5, h6⟩ := h
  refine ⟨fun ci k1 k2 => ?_, fun k => hq.trans (h2 k), fun k => hq.trans (h3 k), fun k => hq.trans (h4 k), fun i k1 k => hq.trans (h5 i k1 k), fun k => ?_⟩
  · obtain ⟨r, e1, e2⟩ := h1 ci k1 k2
    exact ⟨r, e1, e2.kept hq⟩
  · obtain ⟨scr, q1, q2⟩ := h6 k
    exact ⟨scr, hq.trans q1, q2⟩
/-- the same cell said of another pure heap that agrees at it -/
theorem gx_cell.same {G : GE} {U : State} {g g1 : GT} {H : Heap} {a : Nat} (hK : gx_K g1 a = gx_K g a) (hN : gx_N g1 a = gx_N g a) (hI : ∀ f, gx_I g1 f a = gx_I g f a) (hR : ∀ f, gx_R g1 f a = gx_R g f a) (hA : ∀ j, gx_A g1 a j = gx_A g a j) (hL : ∀ j, gx_L g1 a j = gx_L g a j) (hO : ∀ j, gx_O g1 a j = gx_O g a j) (h : gx_cell G U g H a) : gx_cell G U g1 H a := by
  obtain ⟨h1, h2, h3, h4, h5, h6⟩ := h
  unfold gx_cell
  simp only [hK, hN, hA, hL, hO]
  refine ⟨fun ci k1 k2 => ?_, h2, h3, h4, h5, h6⟩
  obtain ⟨r, e1, e2⟩ := h1 ci k1 k2
  exact ⟨r, e1, e2.to fun j _ => by unfold fx_V; rw [hI, hR]⟩
theorem gx_lt {G : GE} {U : State} {g : GT} {H : Heap} {a : Nat} (h : gx_H G U g H) (ha : gx_K g a ≠ 0) : a < H.size := by
  rw [h.1]; exact (h.2.2.1 a ha).1
/-- a cell of ours changes in place -/
theorem gx_H.set {G : GE} {U : State} {g g1 : GT} {H H1 : Heap} {a : Nat} (h : gx_H G U g H) (ha : gx_K g a ≠ 0) (hlo : gx_K g a < 60)
    (hZ : gx_Z g1 = gx_Z g) (hK : ∀ q, gx_K g1 q = gx_K g q) (hN : ∀ q, gx_N g1 q = gx_N g q) (hI : ∀ f q, q ≠ a → gx_I g1 f q = gx_I g f q) (hR : ∀ f q, q ≠ a → gx_R g1 f q = gx_R g f q) (hA : ∀ q j, q ≠ a → gx_A g1 q j = gx_A g q j) (hL : ∀ q j, q ≠ a → gx_L g1 q j = gx_L g q j) (hO : ∀ q j, q ≠ a → gx_O g1 q j = gx_O g q j)
    (z : H1.size = H.size) (oq : ∀ q : Nat, q ≠ a → H1[q]? = H[q]?) (hc : gx_cell G U g1 H1 a) : gx_H G U g1 H1 := by
  obtain ⟨h1, h2, h3, h4, h5, h6⟩ := h
  have hba : ge_b G ≤ a := (h3 a ha).2.1 hlo
  have hk : ∀ q : Nat, q < H.size → ¬ ge_b G ≤ q → H1[q]? = H[q]? := fun q _ hq => oq q (fun e => hq (by rw [e]; exact hba))
  refine ⟨by rw [z, h1, hZ], by rw [hZ]; exact h2, fun q hq => ?_, fun q hq => ?_, h5.kept hk, h6.kept hk⟩
  · rw [hK] at hq ⊢
    rw [hZ]
    exact h3 q hq
  · by_cases e : q = a
    · rw [e]; exact hc
    · rw [hK] at hq
      exact ((h4 q hq).kept (oq q e)).same (hK q) (hN q) (fun f => hI f q e) (fun f => hR f q e) (fun j => hA q j e) (fun j => hL q j e) (fun j => hO q j e)
