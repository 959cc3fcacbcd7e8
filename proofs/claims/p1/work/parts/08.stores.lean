/-! ===== array stores, new cells, answers ===== -/
section ES
variable {G : GE} {d mc ms : Nat} {M : MT} {pc : Nat} {ls : List (Nat × Value)} {st : List Value} {g : GT} {Q : RT → GT → Prop}
theorem ax_cell {U : State} {g g1 : GT} {H1 : Heap} {a n : Nat} (hk : gx_K g a = n) (hK : gx_K g1 a = gx_K g a) (h0 : n ≠ 0)
    (h : ∀ v : Cell, H1[a]? = some v → (n = 50 → v = arrV (ge_A G 0) (gx_N g1 a) (fun j => .int (gx_A g1 a j))) ∧ (n = 51 → v = arrV (ge_A G 1) (gx_N g1 a) (fun j => .long (gx_L g1 a j))) ∧ (n = 52 → v = arrV (ge_A G 2) (gx_N g1 a) (fun j => .int (gx_A g1 a j))) ∧ (∀ i, i < 4 → n = 53 + i → v = arrV (ge_A G (3 + i)) (gx_N g1 a) (fun j => fx_v (gx_O g1 a j))))
    (hn : 50 ≤ n ∧ n < 57) {v : Cell} (hv : H1[a]? = some v) : gx_cell G U g1 H1 a := by
  obtain ⟨h1, h2, h3, h4⟩ := h v hv
  refine ⟨fun ci e1 e2 => ?_, fun e => ?_, fun e => ?_, fun e => ?_, fun i hi e => ?_, fun e => ?_⟩
  · omega
  · rw [hv, h1 (by omega)]
  · rw [hv, h2 (by omega)]
  · rw [hv, h3 (by omega)]
  · rw [hv, h4 i hi (by omega)]
  · omega
theorem ex_iast {a : Nat} {i x : Int32} (hM : mt_ok M = true) (hf : mt_in M pc (.iastore) 1) (hk : gx_K g a = 50) (hin : vp_in i (gx_N g a)) (k : ex_W G d mc ms M (pc + 1) ls st (px_A g a i.toNatClampNeg x) Q) : ex_W G d mc ms M pc ls (.int x :: .int i :: .ref a :: st) g Q := by
  intro p e R s m args9 below meth c H locs cells slots MC MS L hC hR hB hH hl hz
  have ha0 : gx_K g a ≠ 0 := by omega
  have hcell := (hH.2.2.2.1 a ha0).2.1 hk
  have hba : ge_b G ≤ a := (hH.2.2.1 a ha0).2.1 (by omega)
  refine W.iast hC.1 hC.2.1 hcell ((ex_ty hC 0 rfl).1 _ _) (fun q => by cases q) (by rw [arrV_size]; exact hin) rfl rfl (mt_dec hM hf) fun H' e1 e2 e3 => ?_
  refine k p e R s m args9 below meth c H' _ cells slots MC MS L hC hR hB (hH.set ha0 (by omega) rfl (fun _ => rfl) (fun _ => rfl) (fun _ _ _ => rfl) (fun _ _ _ => rfl) (fun q j hq => ?_) (fun _ _ _ => rfl) (fun _ _ _ => rfl) e2 e3 ?_) hl (t_lc (free := fun q => ge_b G ≤ q) hz hba)
  · simp [gx_A, px_A, gx_u, hq]
  · refine ax_cell hk rfl (by omega) (fun v hv => ?_) (by omega) e1
    refine ⟨fun _ => ?_, fun h => by omega, fun h => by omega, fun i _ h => by omega⟩
    rw [e1] at hv
    rw [← Option.some.inj hv, arrV_store]
    show arrV _ _ _ = arrV _ _ _
    congr 1
    funext q
    by_cases hq : q = i.toNatClampNeg
    · simp [updV, gx_A, px_A, gx_u, hq]
    · simp [updV, gx_A, px_A, gx_u, hq]
theorem ex_bast {a : Nat} {i x : Int32} (hM : mt_ok M = true) (hf : mt_in M pc (.bastore) 1) (hk : gx_K g a = 52) (hx : x = 0 ∨ x = 1) (hin : vp_in i (gx_N g a)) (k : ex_W G d mc ms M (pc + 1) ls st (px_A g a i.toNatClampNeg x) Q) : ex_W G d mc ms M pc ls (.int x :: .int i :: .ref a :: st) g Q := by
  intro p e R s m args9 below meth c H locs cells slots MC MS L hC hR hB hH hl hz
  have ha0 : gx_K g a ≠ 0 := by omega
  have hcell := (hH.2.2.2.1 a ha0).2.2.2.1 hk
  have hba : ge_b G ≤ a := (hH.2.2.1 a ha0).2.1 (by omega)
  refine W.zast hC.1 hC.2.1 hcell ((ex_ty hC 2 rfl).1 _ _) (fun q => by cases q) (by rw [arrV_size]; exact hin) rfl rfl (mt_dec hM hf) fun H' e1 e2 e3 => ?_
  refine k p e R s m args9 below meth c H' _ cells slots MC MS L hC hR hB (hH.set ha0 (by omega) rfl (fun _ => rfl) (fun _ => rfl) (fun _ _ _ => rfl) (fun _ _ _ => rfl) (fun q j hq => ?_) (fun _ _ _ => rfl) (fun _ _ _ => rfl) e2 e3 ?_) hl (t_lc (free := fun q => ge_b G ≤ q) hz hba)
  · simp [gx_A, px_A, gx_u, hq]
  · refine ax_cell hk rfl (by omega) (fun v hv => ?_) (by omega) e1
    refine ⟨fun h => by omega, fun h => by omega, fun _ => ?_, fun i _ h => by omega⟩
    rw [e1] at hv
    rw [← Option.some.inj hv, arrV_store]
    show arrV _ _ _ = arrV _ _ _
    congr 1
    funext q
    by_cases hq : q = i.toNatClampNeg
    · rcases hx with rfl | rfl <;> simp [updV, gx_A, px_A, gx_u, hq, narrow] <;> decide
    · simp [updV, gx_A, px_A, gx_u, hq]
theorem ex_last {a : Nat} {i : Int32} {x : Int64} (hM : mt_ok M = true) (hf : mt_in M pc (.lastore) 1) (hk : gx_K g a = 51) (hin : vp_in i (gx_N g a)) (k : ex_W G d mc ms M (pc + 1) ls st (px_L g a i.toNatClampNeg x) Q) : ex_W G d mc ms M pc ls (.long x :: .int i :: .ref a :: st) g Q := by
  intro p e R s m args9 below meth c H locs cells slots MC MS L hC hR hB hH hl hz
  have ha0 : gx_K g a ≠ 0 := by omega
  have hcell := (hH.2.2.2.1 a ha0).2.2.1 hk
  have hba : ge_b G ≤ a := (hH.2.2.1 a ha0).2.1 (by omega)
  refine W.last hC.1 hC.2.1 hcell ((ex_ty hC 1 rfl).1 _ _) (fun q => by cases q) (by rw [arrV_size]; exact hin) rfl rfl (mt_dec hM hf) fun H' e1 e2 e3 => ?_
  refine k p e R s m args9 below meth c H' _ cells slots MC MS L hC hR hB (hH.set ha0 (by omega) rfl (fun _ => rfl) (fun _ => rfl) (fun _ _ _ => rfl) (fun _ _ _ => rfl) (fun _ _ _ => rfl) (fun q j hq => ?_) (fun _ _ _ => rfl) e2 e3 ?_) hl (t_lc (free := fun q => ge_b G ≤ q) hz hba)
  · simp [gx_L, px_L, gx_u, hq]
  · refine ax_cell hk rfl (by omega) (fun v hv => ?_) (by omega) e1
    refine ⟨fun h => by omega, fun _ => ?_, fun h => by omega, fun i _ h => by omega⟩
    rw [e1] at hv
    rw [← Option.some.inj hv, arrV_store]
    show arrV _ _ _ = arrV _ _ _
    congr 1
    funext q
    by_cases hq : q = i.toNatClampNeg
    · simp [updV, gx_L, px_L, gx_u, hq]
    · simp [updV, gx_L, px_L, gx_u, hq]
/-- the class of what an array of references may hold -/
def ax_ci (n : Nat) : Nat := match n with
  | 0 => 6 | 1 => 5 | 2 => 3 | _ => 10
theorem ex_aast {a n v : Nat} {i : Int32} (hM : mt_ok M = true) (hf : mt_in M pc (.aastore) 1) (hn : n < 4) (hk : gx_K g a = 53 + n) (hv : gx_K g v = ax_ci n + 1) (hin : vp_in i (gx_N g a)) (k : ex_W G d mc ms M (pc + 1) ls st (px_O g a i.toNatClampNeg v) Q) : ex_W G d mc ms M pc ls (.ref v :: .int i :: .ref a :: st) g Q := by
  intro p e R s m args9 below meth c H locs cells slots MC MS L hC hR hB hH hl hz
  have ha0 : gx_K g a ≠ 0 := by omega
  have hcell := (hH.2.2.2.1 a ha0).2.2.2.2.1 n hn hk
  have hba : ge_b G ≤ a := (hH.2.2.1 a ha0).2.1 (by omega)
  have hci : ax_ci n < 13 := by
    match n, hn with
    | 0, _ => decide
    | 1, _ => decide
    | 2, _ => decide
    | 3, _ => decide
    | n + 4, h => omega
  have hv60 : gx_K g v < 60 := by omega
  have hv0 : v ≠ 0 := by
    have h1 := (hH.2.2.1 v (by omega)).2.1 hv60
    have h2 := hH.2.1
    omega
  have hlt : i.toNatClampNeg < gx_N g a := Nat.not_le.mp fun q => hin (Or.inr q)
  have hi0 : ¬ i < 0 := fun q => hin (Or.inl q)
  obtain ⟨hc, -, -⟩ := cx_facts _ hci
  obtain ⟨r', hr', cellV, g1, g2, g3, -⟩ := (hH.2.2.2.1 v (by omega)).1 _ hv hci
  have hKK := hC.2.2.2.2.2.2.2.2.2.1.1
  have hcls := (hKK.1 _ _ hc).2
  obtain ⟨kA, comp, k1, k2, k3, -⟩ : ∃ (kA : Class) (comp : ClassId), s.vm.classes[ge_A G (3 + n)]? = some kA ∧ kA.kind = .array comp (.object (cx_R (ax_ci n))) ∧ s.vm.findClass (cx_R (ax_ci n)) = some comp ∧ s.vm.findClass ("[" ++ (FieldType.object (cx_R (ax_ci n))).toString) = some (ge_A G (3 + n)) := by
    match n, hn with
    | 0, _ => exact (ex_ty hC 3 rfl).2
    | 1, _ => exact (ex_ty hC 4 rfl).2
    | 2, _ => exact (ex_ty hC 5 rfl).2
    | 3, _ => exact (ex_ty hC 6 rfl).2
    | n + 4, h => omega
  have hcomp : comp = (ge_D G).1 (ax_ci n) := Option.some.inj (k3.symm.trans hcls.1)
  subst hcomp
  obtain ⟨kC, hkC, -⟩ := hcls.2
  refine W.aast hC.1 hC.2.1 hcell (fun q h => by cases h) (fun h => by cases h) k1 k2 rfl hkC ⟨hi0, by rw [arrV_size]; exact hlt⟩ g1 (fun q h => by rw [g3] at h; cases h) (by rw [g2]; exact hkC) (by rw [g2]; exact va_assign hcls) rfl rfl (mt_dec hM hf) fun H' e1 e2 e3 => ?_
  refine k p e R s m args9 below meth c H' _ cells slots MC MS L hC hR hB (hH.set ha0 (by omega) rfl (fun _ => rfl) (fun _ => rfl) (fun _ _ _ => rfl) (fun _ _ _ => rfl) (fun _ _ _ => rfl) (fun _ _ _ => rfl) (fun q j hq => ?_) e2 e3 ?_) hl (t_lc (free := fun q => ge_b G ≤ q) hz hba)
  · simp [gx_O, px_O, gx_u, hq]
  · refine ax_cell hk rfl (by omega) (fun v' hv' => ?_) (by omega) e1
    refine ⟨fun h => by omega, fun h => by omega, fun h => by omega, fun i' hi' h => ?_⟩
    obtain rfl : n = i' := by omega
    rw [e1] at hv'
    rw [← Option.some.inj hv', arrV_store]
    show arrV _ _ _ = arrV _ _ _
    congr 1
    funext q
    by_cases hq : q = i.toNatClampNeg
    · simp [updV, gx_O, px_O, gx_u, hq, fx_v, hv0]
    · simp [updV, gx_O, px_O, gx_u, hq]
end ES
