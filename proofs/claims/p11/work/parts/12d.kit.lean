/-! ===== small things for walks ===== -/
theorem mi {M : MT} {q : Nat × Instr × Nat} (i : Nat) (h : (mt_c M)[i]? = some q) : q ∈ mt_c M := List.mem_of_getElem? h
section EK
variable {G : GE} {d mc ms : Nat} {M : MT} {pc : Nat} {ls : List (Nat × Value)} {st : List Value} {g : GT} {Q : RT → GT → Prop}
theorem ex_ldcw {n : Nat} {v : Int32} (hM : mt_ok M = true) (hf : mt_in M pc (.ldc_w n) 3) (hv : (mt_i M).lookup n = some v) (k : ex_W G d mc ms M (pc + 3) ls (.int v :: st) g Q) : ex_W G d mc ms M pc ls st g Q := by
  intro p e R s m args9 below meth c H locs cells slots MC MS L hC hR hB hH hl hz
  have hw := (mt_ok_spec hM).2.1 _ (mt_kin hv)
  exact lv_ldcw hC.1 hC.2.1 hC.2.2.2.1 (hC.2.2.2.2.1 _ hw.1 hw.2) (mt_dec hM hf) (k p e R s m args9 below meth c H locs cells slots MC MS L hC hR hB hH hl hz)
def lx_le : List (Nat × Value) → List (Nat × Value) → Prop
  | [], _ => True
  | q :: t, ls => ls.lookup q.1 = some q.2 ∧ lx_le t ls
theorem lx_le_mem {ls : List (Nat × Value)} : ∀ {ls' : List (Nat × Value)}, lx_le ls' ls → ∀ q ∈ ls', ls.lookup q.1 = some q.2 := by
  intro ls'
  induction ls' with
  | nil => intro _ q hq; cases hq
  | cons a t ih =>
    intro h q hq
    rcases List.mem_cons.mp hq with rfl | hq
    · exact h.1
    · exact ih h.2 q hq
/-- fewer locals, in another order -/
theorem ex_ls {ls' : List (Nat × Value)} (h : lx_le ls' ls) (k : ex_W G d mc ms M pc ls' st g Q) : ex_W G d mc ms M pc ls st g Q := by
  intro p e R s m args9 below meth c H locs cells slots MC MS L hC hR hB hH hl hz
  exact k p e R s m args9 below meth c H locs cells slots MC MS L hC hR hB hH ⟨hl.1, hl.2.1, fun q hq => lx_get hl (lx_le_mem h q hq)⟩ hz
theorem ex_st {st' : List Value} {g' : GT} (e1 : st = st') (e2 : g = g') (k : ex_W G d mc ms M pc ls st' g' Q) : ex_W G d mc ms M pc ls st g Q := by
  rw [e1, e2]; exact k
end EK
/-- elements lo .. hi - 1 of an int array are v -/
def px_F (g : GT) (a lo hi : Nat) (v : Int32) : GT := (g.1, g.2.1, g.2.2.1, g.2.2.2.1, fun x j => if x = a ∧ lo ≤ j ∧ j < hi then v else g.2.2.2.2.1 x j, g.2.2.2.2.2)
def px_FL (g : GT) (a lo hi : Nat) (v : Int64) : GT := (g.1, g.2.1, g.2.2.1, g.2.2.2.1, g.2.2.2.2.1, fun x j => if x = a ∧ lo ≤ j ∧ j < hi then v else g.2.2.2.2.2.1 x j, g.2.2.2.2.2.2)
theorem px_F_0 (g : GT) (a lo : Nat) (v : Int32) : px_F g a lo lo v = g := by
  have h : (fun x j => if x = a ∧ lo ≤ j ∧ j < lo then v else g.2.2.2.2.1 x j) = g.2.2.2.2.1 := by
    funext x j
    rw [if_neg (by omega)]
  unfold px_F
  rw [h]
theorem px_F_s (g : GT) (a lo hi : Nat) (v : Int32) (h : lo ≤ hi) : px_A (px_F g a lo hi v) a hi v = px_F g a lo (hi + 1) v := by
  unfold px_A px_F gx_u
  dsimp only
  have h2 : (fun x y => if x = a ∧ y = hi then v else if x = a ∧ lo ≤ y ∧ y < hi then v else g.2.2.2.2.1 x y) = (fun x j => if x = a ∧ lo ≤ j ∧ j < hi + 1 then v else g.2.2.2.2.1 x j) := by
    funext x j
    by_cases e : x = a
    · by_cases e1 : j = hi
      · rw [if_pos ⟨e, e1⟩, if_pos (by omega)]
      · rw [if_neg (by omega)]
        by_cases e2 : lo ≤ j ∧ j < hi
        · rw [if_pos ⟨e, e2⟩, if_pos (by omega)]
        · rw [if_neg (fun q => e2 q.2), if_neg (by omega)]
    · rw [if_neg (fun q => e q.1), if_neg (fun q => e q.1), if_neg (fun q => e q.1)]
  rw [h2]
theorem px_FL_0 (g : GT) (a lo : Nat) (v : Int64) : px_FL g a lo lo v = g := by
  have h : (fun x j => if x = a ∧ lo ≤ j ∧ j < lo then v else g.2.2.2.2.2.1 x j) = g.2.2.2.2.2.1 := by
    funext x j
    rw [if_neg (by omega)]
  unfold px_FL
  rw [h]
theorem px_FL_s (g : GT) (a lo hi : Nat) (v : Int64) (h : lo ≤ hi) : px_L (px_FL g a lo hi v) a hi v = px_FL g a lo (hi + 1) v := by
  unfold px_L px_FL gx_u
  dsimp only
  have h2 : (fun x y => if x = a ∧ y = hi then v else if x = a ∧ lo ≤ y ∧ y < hi then v else g.2.2.2.2.2.1 x y) = (fun x j => if x = a ∧ lo ≤ j ∧ j < hi + 1 then v else g.2.2.2.2.2.1 x j) := by
    funext x j
    by_cases e : x = a
    · by_cases e1 : j = hi
      · rw [if_pos ⟨e, e1⟩, if_pos (by omega)]
      · rw [if_neg (by omega)]
        by_cases e2 : lo ≤ j ∧ j < hi
        · rw [if_pos ⟨e, e2⟩, if_pos (by omega)]
        · rw [if_neg (fun q => e2 q.2), if_neg (by omega)]
    · rw [if_neg (fun q => e q.1), if_neg (fun q => e q.1), if_neg (fun q => e q.1)]
  rw [h2]
/-- the contract of a method that comes back, its answer and heap told -/
def rv (v : Option Value) (g1 : GT) : RT → GT → Prop := fun r g' => r = .inl v ∧ g' = g1
