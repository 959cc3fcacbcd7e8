/-! ===== System.arraycopy between int arrays ===== -/
theorem cp_nat : Cond.native arraycopyName ∈ lw_tbl := List.mem_of_getElem? (i := 683) (by decide +kernel)
theorem cp_nn {z : Int32} (hz : ¬ z < 0) : z.toInt = (z.toNatClampNeg : Int) := by
  have hz0 : (0 : Int) ≤ z.toInt := by
    have := Int32.not_lt.mp hz
    simpa using Int32.le_iff_toInt_le.mp this
  show z.toInt = ((z.toInt.toNat : Nat) : Int)
  omega
section EP
variable {G : GE} {d mc ms : Nat} {M : MT} {pc : Nat} {ls : List (Nat × Value)} {st : List Value} {g : GT} {Q : RT → GT → Prop}
theorem ex_copy {idx n9 d1 mc1 ms1 a0 a : Nat} {sp dp n : Int32} (hM : mt_ok M = true) (hf : mt_in M pc (.invokestatic idx) 3) (hp : (mt_m M).lookup idx = some (arraycopyName, n9, 7, d1, mc1, ms1)) (hk0 : gx_K g a0 = 50) (hk : gx_K g a = 50)
    (h1 : ¬ sp < 0) (h2 : ¬ dp < 0) (h3 : ¬ n < 0) (h4 : sp.toNatClampNeg + n.toNatClampNeg ≤ gx_N g a0) (h5 : dp.toNatClampNeg + n.toNatClampNeg ≤ gx_N g a) (hcat : (st.map fun v => v.category).sum ≤ 8)
    (k : ex_W G d mc ms M (pc + 3) ls st (px_C g a0 sp.toNatClampNeg a dp.toNatClampNeg n.toNatClampNeg) Q) : ex_W G d mc ms M pc ls (.int n :: .int dp :: .ref a :: .int sp :: .ref a0 :: st) g Q := by
  intro p e R s m args9 below meth c H locs cells slots MC MS L hC hR hB hH hl hz T hT X
  have w1 := mt_wd hM hC (mt_min hp (w := .methodLink (mt_y M).cls idx arraycopyName) (by simp [mt_mw]))
  have w2 := mt_wd hM hC (mt_min hp (w := .static arraycopyName) (by simp [mt_mw]))
  have w3 := mt_wd hM hC (mt_min hp (w := .initialized "java/lang/System") (by simp [mt_mw]; exact rfl))
  have w4 : (Cond.native arraycopyName).before args9 s = true := hC.2.2.2.2.1 _ cp_nat rfl
  have ha0 : gx_K g a ≠ 0 := by omega
  have hba : ge_b G ≤ a := (hH.2.2.1 a ha0).2.1 (by omega)
  have hc0 := (hH.2.2.2.1 a0 (by omega)).2.1 hk0
  have hc1 := (hH.2.2.2.1 a ha0).2.1 hk
  obtain ⟨-, k0, hk0', cm0, hkk0⟩ := (ex_ty hC 0 rfl).1 (gx_N g a0) (fun j => .int (gx_A g a0 j))
  obtain ⟨-, k1, hk1', cm1, hkk1⟩ := (ex_ty hC 0 rfl).1 (gx_N g a) (fun j => .int (gx_A g a j))
  obtain ⟨vm', X', step⟩ := X.arraycopy hC.1 hC.2.2.2.1 w1 w4 w2 w3 (src := a0) (dst := a) (cs := arrV (ge_A G 0) (gx_N g a0) (fun j => .int (gx_A g a0 j))) (cd := arrV (ge_A G 0) (gx_N g a) (fun j => .int (gx_A g a j))) (srcPos := sp) (destPos := dp) (n := n) (by rw [hT]; exact hc0) (by rw [hT]; exact hc1)
    (fun _ h => by cases h) (fun _ h => by cases h) (fun h => by cases h) (fun h => by cases h) hk0' hk1' hkk0 hkk1 (by simp [refKind]) h1 h2 h3
    (by rw [cp_nn h1, cp_nn h3, arrV_size]; omega)
    (by rw [cp_nn h2, cp_nn h3, arrV_size]; omega)
    (fun vm₁ _ i hi => by
      have e : (arrV (ge_A G 0) (gx_N g a0) (fun j => .int (gx_A g a0 j))).slots.getD (sp.toNatClampNeg + i) .null = .int (gx_A g a0 (sp.toNatClampNeg + i)) := by
        rw [Array.getD_eq_getD_getElem?, arrV_read _ _ (by omega)]
        rfl
      refine ⟨?_, ?_⟩
      · rw [e]; rfl
      · rw [e]; exact trivial)
    (g := F0 m pc L (.int n :: .int dp :: .ref a :: .int sp :: .ref a0 :: st)) rfl (by rw [hC.2.2.1]; exact hl.1) (rest := st) rfl (by rw [hC.2.1]; exact mt_dec hM hf) (by omega) (by
      show 2 * 0 + (st.map fun v => v.category).sum + (nativeFrameWords "java/lang/System" "arraycopy" 5 + 11) ≤ R.locals
      have : nativeFrameWords "java/lang/System" "arraycopy" 5 ≤ 100 := by decide +kernel
      omega)
  have e1 : copied (arrV (ge_A G 0) (gx_N g a0) (fun j => .int (gx_A g a0 j))) (arrV (ge_A G 0) (gx_N g a) (fun j => .int (gx_A g a j))) sp dp n = arrV (ge_A G 0) (gx_N g a) (fun j => .int (va_cpy (gx_A g a0) (gx_A g a) sp.toNatClampNeg dp.toNatClampNeg n.toNatClampNeg j)) := va_copied (fun z => .int z) (ge_A G 0) (ge_A G 0) (gx_A g a0) (gx_A g a) h4
  rw [e1] at X' step
  have hl1 : a < H.size := (Array.getElem?_eq_some_iff.mp hc1).1
  generalize hY : arrV (ge_A G 0) (gx_N g a) (fun j => .int (va_cpy (gx_A g a0) (gx_A g a) sp.toNatClampNeg dp.toNatClampNeg n.toNatClampNeg j)) = Y at X' step
  have hheap : ((T.setVm vm').setCell a Y).heap = H.setIfInBounds a Y := by rw [← hT]; rfl
  have oq : ∀ q : Nat, q ≠ a → (H.setIfInBounds a Y)[q]? = H[q]? := fun q hq => by simp [Array.getElem?_setIfInBounds, Ne.symm hq]
  have eq1 : (H.setIfInBounds a Y)[a]? = some Y := by simp [Array.getElem?_setIfInBounds, hl1]
  obtain ⟨t, a1, b1⟩ := k p e R s m args9 below meth c (H.setIfInBounds a Y) _ cells slots MC MS L hC hR hB (hH.set ha0 (by omega) rfl (fun _ => rfl) (fun _ => rfl) (fun _ _ _ => rfl) (fun _ _ _ => rfl) (fun q j hq => by simp [gx_A, px_C, hq]) (fun _ _ _ => rfl) (fun _ _ _ => rfl) (by simp) oq (by
      refine ax_cell hk rfl (by omega) (fun v hv => ?_) (by omega) eq1
      refine ⟨fun _ => ?_, fun h => by omega, fun h => by omega, fun i _ h => by omega⟩
      rw [eq1] at hv
      rw [← Option.some.inj hv, ← hY]
      show arrV _ _ _ = arrV _ _ _
      congr 1
      funext q
      simp [va_cpy, gx_A, px_C])) hl (fun z hz1 => by
      rcases List.mem_append.mp hz1 with h | h
      · exact hz z h
      · obtain ⟨y, -, hy⟩ := List.mem_map.mp h
        rw [← hy]
        exact hba) _ hheap X'
  exact ⟨t, step t a1, b1⟩
theorem ex_max {idx n9 d1 mc1 ms1 : Nat} {x y : Int32} (hM : mt_ok M = true) (hf : mt_in M pc (.invokestatic idx) 3) (hp : (mt_m M).lookup idx = some (Lib.Math.max.name, n9, 8, d1, mc1, ms1)) (hcat : (st.map fun v => v.category).sum ≤ 8)
    (k : ex_W G d mc ms M (pc + 3) ls (.int (if x < y then y else x) :: st) g Q) : ex_W G d mc ms M pc ls (.int y :: .int x :: st) g Q := by
  intro p e R s m args9 below meth c H locs cells slots MC MS L hC hR hB hH hl hz
  have w1 := mt_wd hM hC (mt_min hp (w := .methodLink (mt_y M).cls idx Lib.Math.max.name) (by simp [mt_mw]))
  have w2 := mt_wd hM hC (mt_min hp (w := .static Lib.Math.max.name) (by simp [mt_mw]))
  have w3 := mt_wd hM hC (mt_min hp (w := .initialized "java/lang/Math") (by simp [mt_mw]; exact rfl))
  have w4 := mt_wd hM hC (mt_min hp (w := .code Lib.Math.max.name Lib.Math.max.code 2 (some .int)) (by simp [mt_mw]))
  exact va_mmax hC.1 hC.2.1 (by rw [hC.2.2.1]; exact hl.1.symm) hC.2.2.2.1 w1 w2 w3 w4 (by omega) (by omega) (by omega) (by omega) (mt_dec hM hf) (k p e R s m args9 below meth c H locs cells slots MC MS L hC hR hB hH hl hz)
end EP
