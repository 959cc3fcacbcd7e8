theorem fw_0 : GoodIn lw_tbl (cx_fw 0) := goodIn_r _ [221, 223, 225, 227, 229, 231, 233] (by decide +kernel) (by decide +kernel)
theorem fw_1 : GoodIn lw_tbl (cx_fw 1) := goodIn_r _ [377, 379, 381, 383, 385, 387] (by decide +kernel) (by decide +kernel)
theorem fw_2 : GoodIn lw_tbl (cx_fw 2) := goodIn_r _ [272, 274, 276] (by decide +kernel) (by decide +kernel)
theorem fw_3 : GoodIn lw_tbl (cx_fw 3) := goodIn_r _ [466, 468, 470, 472, 474, 476, 478, 480, 482, 484, 486, 488] (by decide +kernel) (by decide +kernel)
theorem fw_4 : GoodIn lw_tbl (cx_fw 4) := goodIn_r _ [309, 311, 313, 315, 317, 319, 321, 323, 325, 327, 329, 331] (by decide +kernel) (by decide +kernel)
theorem fw_5 : GoodIn lw_tbl (cx_fw 5) := goodIn_r _ [411, 413, 415, 417, 419, 421, 423, 425, 427, 429, 431, 433, 435, 437, 439, 441, 443] (by decide +kernel) (by decide +kernel)
theorem fw_6 : GoodIn lw_tbl (cx_fw 6) := goodIn_r _ [191, 193, 195, 197, 199, 201, 203, 205, 207] (by decide +kernel) (by decide +kernel)
theorem fw_7 : GoodIn lw_tbl (cx_fw 7) := goodIn_r _ [377, 379, 381, 383, 385, 387] (by decide +kernel) (by decide +kernel)
theorem fw_8 : GoodIn lw_tbl (cx_fw 8) := goodIn_r _ [346, 348, 350, 352, 354, 356] (by decide +kernel) (by decide +kernel)
theorem fw_9 : GoodIn lw_tbl (cx_fw 9) := goodIn_r _ [249, 251, 253, 255, 257] (by decide +kernel) (by decide +kernel)
theorem fw_10 : GoodIn lw_tbl (cx_fw 10) := goodIn_r _ [505, 507, 509, 511, 513, 515] (by decide +kernel) (by decide +kernel)
theorem fw_11 : GoodIn lw_tbl (cx_fw 11) := goodIn_r _ [939, 941, 943, 945, 947, 949, 951, 953, 955, 957] (by decide +kernel) (by decide +kernel)
theorem fw_12 : GoodIn lw_tbl (cx_fw 12) := goodIn_r _ [1605, 1607, 1609, 1611, 1613, 1615, 1617, 1619, 1621, 1623, 1625, 1627, 1629, 1631, 1633, 1635, 1637, 1639, 1641, 1643, 1645, 1647, 1649, 1651, 1653, 1655, 1657, 1659, 1661, 1663, 1665, 1667, 1669, 1671, 1673, 1675, 1677, 1679, 1681, 1683, 1685, 1687, 1689, 1691, 1693, 1695, 1697, 1699, 1701, 1703, 1705, 1707, 1709, 1711, 1713, 1715, 1717, 1719, 1721, 1723, 1725, 1727, 1729, 1731, 1733, 1735, 1737] (by decide +kernel) (by decide +kernel)
theorem fw_all : ∀ ci, ci < 13 → GoodIn lw_tbl (cx_fw ci) := by
  intro ci h
  match ci, h with
  | 0, _ => exact fw_0
  | 1, _ => exact fw_1
  | 2, _ => exact fw_2
  | 3, _ => exact fw_3
  | 4, _ => exact fw_4
  | 5, _ => exact fw_5
  | 6, _ => exact fw_6
  | 7, _ => exact fw_7
  | 8, _ => exact fw_8
  | 9, _ => exact fw_9
  | 10, _ => exact fw_10
  | 11, _ => exact fw_11
  | 12, _ => exact fw_12
  | k + 13, h => omega
theorem fw_w {G : GE} {M : MT} {p : Program} {s : State} {m : MethodId} {args : Array Value} {meth : Method} {c : Code} (hC : cx_C G M p s m args meth c) {ci : Nat} (h : ci < 13) : ∀ w ∈ cx_fw ci, w.before args s = true := fun w hw => by
  obtain ⟨h1, h2⟩ := fw_all ci h w hw
  rcases h2 with h2 | ⟨ty, rfl⟩
  · exact hC.2.2.2.2.1 w h1 (by cases w <;> first | rfl | exact h2)
  · exact hC.2.2.2.2.1 _ h1 rfl
theorem mt_fni {M : MT} {idx ci j : Nat} (hp : (mt_f M).lookup idx = some (ci, j)) : Cond.fieldLink (mt_y M).cls idx (cx_T ci j).1 (cx_T ci j).2.1 (cx_T ci j).2.2.1 ∈ mt_need M :=
  List.mem_append_left _ (List.mem_append_left _ (List.mem_append_left _ (List.mem_map.mpr ⟨(idx, ci, j), mt_mem hp, rfl⟩)))
theorem mt_wd {G : GE} {M : MT} {p : Program} {s : State} {m : MethodId} {args : Array Value} {meth : Method} {c : Code} (hM : mt_ok M = true) (hC : cx_C G M p s m args meth c) {w : Cond} (hw : w ∈ mt_need M) : w.before args s = true :=
  hC.2.2.2.2.1 w ((mt_ok_spec hM).2.1 w hw).1 ((mt_ok_spec hM).2.1 w hw).2
section EM
variable {G : GE} {d mc ms : Nat} {M : MT} {pc : Nat} {ls : List (Nat × Value)} {st : List Value} {g : GT} {Q : RT → GT → Prop}
theorem ex_get {idx ci j a : Nat} (hM : mt_ok M = true) (hf : mt_in M pc (.getfield idx) 3) (hp : (mt_f M).lookup idx = some (ci, j)) (hk : gx_K g a = ci + 1) (k : ex_W G d mc ms M (pc + 3) ls (fx_V g ci a j :: st) g Q) : ex_W G d mc ms M pc ls (.ref a :: st) g Q := by
  intro p e R s m args9 below meth c H locs cells slots MC MS L hC hR hB hH hl hz
  obtain ⟨hci, hj⟩ := (mt_ok_spec hM).2.2.1 _ (mt_mem hp)
  dsimp only at hci hj
  obtain ⟨hc, hty, hnm⟩ := cx_facts ci hci
  obtain ⟨r, hr, cell, q1, q2, q3, q4⟩ := (hH.2.2.2.1 a (by omega)).1 ci hk hci
  obtain rfl : r = (cx_R ci, cx_T ci, cx_N ci) := Option.some.inj (hr.symm.trans hc)
  obtain ⟨hS, hfc, kC, hkC, hkind⟩ := hC.2.2.2.2.2.2.2.2.2.1.1.1 ci _ hc
  obtain ⟨cf, kf, fi, f, hi, hsl⟩ := hS j hj
  refine W.getf hC.1 hC.2.1 hC.2.2.2.1 (mt_wd hM hC (mt_fni hp)) hi (u_facts hfc hkC (u_lays (fw_w hC hci) (fun w h => h) hj) hi).1 q1 (by rw [q3]; exact fun h => by cases h) (v := fx_V g ci a j) ?_ rfl rfl (mt_dec hM hf) (k p e R s m args9 below meth c H locs cells slots MC MS L hC hR hB hH hl hz)
  rw [hsl, q4 j hj]
theorem fx_VI (g : GT) (f a : Nat) (x : Int32) {ci j : Nat} (hr : fx_R ci j = false) (hf : f = 100 * ci + j) (hj : j < 100) {N : Nat} (hN : N ≤ 100) : ∀ i, i < N → updV (fx_V g ci a) j (.int x) i = fx_V (px_I g f a x) ci a i := by
  intro i hi
  subst hf
  by_cases e : i = j
  · subst e
    simp [updV, fx_V, hr, gx_I, px_I, gx_u]
  · have e2 : ¬ (100 * ci + i = 100 * ci + j) := by omega
    simp [updV, e, fx_V, gx_I, gx_R, px_I, gx_u, e2]
theorem fx_VR (g : GT) (f a x : Nat) (h0 : x ≠ 0) {ci j : Nat} (hr : fx_R ci j = true) (hf : f = 100 * ci + j) (hj : j < 100) {N : Nat} (hN : N ≤ 100) : ∀ i, i < N → updV (fx_V g ci a) j (.ref x) i = fx_V (px_R g f a x) ci a i := by
  intro i hi
  subst hf
  by_cases e : i = j
  · subst e
    simp [updV, fx_V, hr, gx_R, px_R, gx_u, fx_v, h0]
  · have e2 : ¬ (100 * ci + i = 100 * ci + j) := by omega
    simp [updV, e, fx_V, gx_I, gx_R, px_R, gx_u, e2]
theorem cx_N100 : ∀ ci, ci < 13 → cx_N ci ≤ 100 := by decide +kernel
/-- a store into a field that isn't final, any value that fits; g1: the pure heap behind it -/
theorem ex_put {idx ci j a : Nat} {v : Value} {g1 : GT} (hM : mt_ok M = true) (hf : mt_in M pc (.putfield idx) 3) (hp : (mt_f M).lookup idx = some (ci, j)) (hk : gx_K g a = ci + 1)
    (hfin : (cx_T ci j).2.2.2 = false ∨ ((mt_y M).name = "<init>" ∧ (cx_T ci j).1 = (mt_y M).cls)) (hn : narrow (cx_ty ci j) v = v) (hfit : fits (cx_ty ci j) v = true)
    (hv : ∀ i, i < cx_N ci → updV (fx_V g ci a) j v i = fx_V g1 ci a i) (hZ : gx_Z g1 = gx_Z g) (hK : ∀ q, gx_K g1 q = gx_K g q) (hN : ∀ q, gx_N g1 q = gx_N g q) (hI : ∀ f q, q ≠ a → gx_I g1 f q = gx_I g f q) (hR1 : ∀ f q, q ≠ a → gx_R g1 f q = gx_R g f q) (hA : ∀ q j, gx_A g1 q j = gx_A g q j) (hL : ∀ q j, gx_L g1 q j = gx_L g q j) (hO : ∀ q j, gx_O g1 q j = gx_O g q j)
    (k : ex_W G d mc ms M (pc + 3) ls st g1 Q) : ex_W G d mc ms M pc ls (v :: .ref a :: st) g Q := by
  intro p e R s m args9 below meth c H locs cells slots MC MS L hC hR hB hH hl hz
  obtain ⟨hci, hj⟩ := (mt_ok_spec hM).2.2.1 _ (mt_mem hp)
  dsimp only at hci hj
  obtain ⟨hc, hty, hnm⟩ := cx_facts ci hci
  have ha0 : gx_K g a ≠ 0 := by omega
  obtain ⟨r, hr, cell, q1, q2, q3, q4⟩ := (hH.2.2.2.1 a ha0).1 ci hk hci
  obtain rfl : r = (cx_R ci, cx_T ci, cx_N ci) := Option.some.inj (hr.symm.trans hc)
  have hKK := hC.2.2.2.2.2.2.2.2.2.1.1
  have hap := va_apart (own := "") (fw_w hC hci) (fun w h => h) (cx_ty ci) hty hnm hKK hc
  obtain ⟨hS, hfc, kC, hkC, hkind⟩ := hKK.1 ci _ hc
  obtain ⟨cf, kf, fi, f, hi, hsl⟩ := hS j hj
  have hlay := fw_w hC hci _ (u_in_lay hj)
  have hst := (u_facts hfc hkC (u_lays (fw_w hC hci) (fun w h => h) hj) hi).1
  have hba : ge_b G ≤ a := (hH.2.2.1 a ha0).2.1 (by omega)
  have hend : ∀ H' : Heap, H'[a]? = some (cell.setSlot ((ge_D G).2 ci j) v) → H'.size = H.size → (∀ q, q ≠ a → H'[q]? = H[q]?) → W p (ge_l G) e R s m args9 below meth c H' (locs ++ [⟨a, (ge_D G).2 ci j⟩]) cells slots (vx_MQ below (ex_Qc G Q) (ex_XC G Q) args9 s MC MS (fun q => ge_b G ≤ q)) (F0 m (pc + 3) L st) := by
    intro H' e1 e2 e3
    refine k p e R s m args9 below meth c H' _ cells slots MC MS L hC hR hB (hH.set ha0 (by omega) hZ hK hN hI hR1 (fun q j _ => hA q j) (fun q j _ => hL q j) (fun q j _ => hO q j) e2 e3 ?_) hl (t_lc (free := fun q => ge_b G ≤ q) hz hba)
    refine ⟨fun ci' h1 h2 => ?_, fun h => ?_, fun h => ?_, fun h => ?_, fun i h0 h => ?_, fun h => ?_⟩
    · rw [hK, hk] at h1
      obtain rfl : ci = ci' := by omega
      exact ⟨_, hc, t_OB.to (V := updV (fx_V g ci a) j v) ⟨_, e1, q2, q3, t_set q4 hap hj v⟩ hv⟩
    all_goals (rw [hK, hk] at h; omega)
  by_cases hfi : (cx_T ci j).2.2.2 = true
  · unfold u_lay at hlay
    rw [if_pos hfi] at hlay
    obtain ⟨hin2, hdecl⟩ : (mt_y M).name = "<init>" ∧ (cx_T ci j).1 = (mt_y M).cls := by
      rcases hfin with h | h
      · rw [h] at hfi; cases hfi
      · exact h
    have hcf : m.cls = cf := by
      obtain ⟨_, _, c', _, _, _, -, -, hf', -, -, -, hown2, -⟩ := Cond.laysFinal_spec hlay
      have e1 : c' = cf := by have := hi.symm.trans hf'; simp at this; exact this.1.symm
      rw [hdecl] at hown2
      rw [← e1]; exact Option.some.inj (hC.2.2.2.1.symm.trans hown2)
    have h6 := u_fits hfc hkC hkind (Or.inr hlay) hi (hty j hj) hn hfit
    refine W.putFinK hC.1 hC.2.1 hC.2.2.2.1 (mt_wd hM hC (mt_fni hp)) hi hst hcf (by rw [hC.2.2.2.2.2.2.2.1]; exact hin2) (by rw [q2]; exact h6) q1 q3 (by rw [hsl]; exact k2_hasslot (q4 j hj)) rfl rfl (mt_dec hM hf) fun H' e1 e2 e3 => ?_
    rw [hsl] at e1 ⊢
    exact hend H' e1 e2 e3
  · unfold u_lay at hlay
    rw [if_neg hfi] at hlay
    have h6 := u_store hfc hkC hkind hlay hi (hty j hj) hn hfit
    refine W.putK hC.1 hC.2.1 (f := f) ⟨hC.2.2.2.1, mt_wd hM hC (mt_fni hp), ⟨_, _, _, hi⟩, hst⟩ (by rw [q2]; exact h6) q1 q3 (by rw [hsl]; exact k2_hasslot (q4 j hj)) rfl rfl (mt_dec hM hf) fun H' e1 e2 e3 => ?_
    rw [hsl] at e1 ⊢
    exact hend H' e1 e2 e3
theorem mt_fins {idx ci j : Nat} (hM : mt_ok M = true) (hf : mt_in M pc (.putfield idx) 3) (hp : (mt_f M).lookup idx = some (ci, j)) : (cx_T ci j).2.2.2 = false ∨ ((mt_y M).name = "<init>" ∧ (cx_T ci j).1 = (mt_y M).cls) := by
  have h := mt_iok hM hf
  simp only [mt_io, hp, mt_fin, Bool.or_eq_true, Bool.not_eq_true', Bool.and_eq_true, beq_iff_eq] at h
  exact h
theorem ex_putI {idx ci j a : Nat} {x : Int32} (hM : mt_ok M = true) (hf : mt_in M pc (.putfield idx) 3) (hp : (mt_f M).lookup idx = some (ci, j)) (hk : gx_K g a = ci + 1) (hr : fx_R ci j = false)
    (k : ex_W G d mc ms M (pc + 3) ls st (px_I g (100 * ci + j) a x) Q) : ex_W G d mc ms M pc ls (.int x :: .ref a :: st) g Q := by
  obtain ⟨hci, hj⟩ := (mt_ok_spec hM).2.2.1 _ (mt_mem hp)
  dsimp only at hci hj
  have h100 := cx_N100 ci hci
  refine ex_put (g1 := px_I g (100 * ci + j) a x) hM hf hp hk (mt_fins hM hf hp) (by rw [fx_int hci hj hr]; rfl) (by rw [fx_int hci hj hr]; rfl) (fx_VI g _ a x hr rfl (by omega) h100) rfl (fun _ => rfl) (fun _ => rfl) (fun f q hq => ?_) (fun _ _ _ => rfl) (fun _ _ => rfl) (fun _ _ => rfl) (fun _ _ => rfl) k
  simp [gx_I, px_I, gx_u, hq]
theorem ex_putR {idx ci j a x : Nat} (hM : mt_ok M = true) (hf : mt_in M pc (.putfield idx) 3) (hp : (mt_f M).lookup idx = some (ci, j)) (hk : gx_K g a = ci + 1) (hr : fx_R ci j = true) (h0 : x ≠ 0)
    (k : ex_W G d mc ms M (pc + 3) ls st (px_R g (100 * ci + j) a x) Q) : ex_W G d mc ms M pc ls (.ref x :: .ref a :: st) g Q := by
  obtain ⟨hci, hj⟩ := (mt_ok_spec hM).2.2.1 _ (mt_mem hp)
  dsimp only at hci hj
  have h100 := cx_N100 ci hci
  refine ex_put (g1 := px_R g (100 * ci + j) a x) hM hf hp hk (mt_fins hM hf hp) (fx_nar (fx_ref hci hj hr)).1 (fx_nar (fx_ref hci hj hr)).2 (fx_VR g _ a x h0 hr rfl (by omega) h100) rfl (fun _ => rfl) (fun _ => rfl) (fun _ _ _ => rfl) (fun f q hq => ?_) (fun _ _ => rfl) (fun _ _ => rfl) (fun _ _ => rfl) k
  simp [gx_R, px_R, gx_u, hq]
/-! arrays -/
theorem ex_ty {p : Program} {s : State} {m : MethodId} {args : Array Value} {meth : Method} {c : Code} (hC : cx_C G M p s m args meth c) (i : Nat) {q : ClassId × FieldType} (h : (cx_tys G)[i]? = some q) : ArrOfT s q.1 q.2 ∧ va_RA s q.1 q.2 := hC.2.2.2.2.2.2.2.2.2.1.1.2 i q h
theorem ex_iald {a : Nat} {i : Int32} (hM : mt_ok M = true) (hf : mt_in M pc (.iaload) 1) (hk : gx_K g a = 50 ∨ gx_K g a = 60) (hin : vp_in i (gx_N g a)) (k : ex_W G d mc ms M (pc + 1) ls (.int (gx_A g a i.toNatClampNeg) :: st) g Q) : ex_W G d mc ms M pc ls (.int i :: .ref a :: st) g Q := by
  intro p e R s m args9 below meth c H locs cells slots MC MS L hC hR hB hH hl hz
  have hlt : i.toNatClampNeg < gx_N g a := Nat.not_le.mp fun q => hin (Or.inr q)
  have kk := k p e R s m args9 below meth c H locs cells slots MC MS L hC hR hB hH hl hz
  rcases hk with hk | hk
  · have hcell := (hH.2.2.2.1 a (by omega)).2.1 hk
    exact W.iald (v := .int (gx_A g a i.toNatClampNeg)) hC.1 hC.2.1 hcell ((ex_ty hC 0 rfl).1 _ _) (fun q => by cases q) (by rw [arrV_size]; exact hin) (by rw [arrV_read _ _ hlt]) rfl rfl (mt_dec hM hf) kk
  · obtain ⟨scr, e1, e2, e3, e4, e5⟩ := (hH.2.2.2.1 a (by omega)).2.2.2.2.2 hk
    exact W.iald (v := .int (gx_A g a i.toNatClampNeg)) hC.1 hC.2.1 e1 e2 e3 (by rw [e4]; exact hin) (e5 _ hlt) rfl rfl (mt_dec hM hf) kk
theorem ex_bald {a : Nat} {i : Int32} (hM : mt_ok M = true) (hf : mt_in M pc (.baload) 1) (hk : gx_K g a = 52) (hin : vp_in i (gx_N g a)) (k : ex_W G d mc ms M (pc + 1) ls (.int (gx_A g a i.toNatClampNeg) :: st) g Q) : ex_W G d mc ms M pc ls (.int i :: .ref a :: st) g Q := by
  intro p e R s m args9 below meth c H locs cells slots MC MS L hC hR hB hH hl hz
  have hlt : i.toNatClampNeg < gx_N g a := Nat.not_le.mp fun q => hin (Or.inr q)
  have hcell := (hH.2.2.2.1 a (by omega)).2.2.2.1 hk
  exact W.zald (v := .int (gx_A g a i.toNatClampNeg)) hC.1 hC.2.1 hcell ((ex_ty hC 2 rfl).1 _ _) (fun q => by cases q) (by rw [arrV_size]; exact hin) (by rw [arrV_read _ _ hlt]) rfl rfl (mt_dec hM hf) (k p e R s m args9 below meth c H locs cells slots MC MS L hC hR hB hH hl hz)
theorem ex_lald {a : Nat} {i : Int32} (hM : mt_ok M = true) (hf : mt_in M pc (.laload) 1) (hk : gx_K g a = 51) (hin : vp_in i (gx_N g a)) (k : ex_W G d mc ms M (pc + 1) ls (.long (gx_L g a i.toNatClampNeg) :: st) g Q) : ex_W G d mc ms M pc ls (.int i :: .ref a :: st) g Q := by
  intro p e R s m args9 below meth c H locs cells slots MC MS L hC hR hB hH hl hz
  have hlt : i.toNatClampNeg < gx_N g a := Nat.not_le.mp fun q => hin (Or.inr q)
  have hcell := (hH.2.2.2.1 a (by omega)).2.2.1 hk
  exact W.lald (v := .long (gx_L g a i.toNatClampNeg)) hC.1 hC.2.1 hcell ((ex_ty hC 1 rfl).1 _ _) (fun q => by cases q) (by rw [arrV_size]; exact hin) (by rw [arrV_read _ _ hlt]) rfl rfl (mt_dec hM hf) (k p e R s m args9 below meth c H locs cells slots MC MS L hC hR hB hH hl hz)
theorem ex_tyO {p : Program} {s : State} {m : MethodId} {args : Array Value} {meth : Method} {c : Code} (hC : cx_C G M p s m args meth c) {i : Nat} (hi : i < 4) : ∃ C : String, ArrOfT s (ge_A G (3 + i)) (.object C) := by
  match i, hi with
  | 0, _ => exact ⟨_, (ex_ty hC 3 rfl).1⟩
  | 1, _ => exact ⟨_, (ex_ty hC 4 rfl).1⟩
  | 2, _ => exact ⟨_, (ex_ty hC 5 rfl).1⟩
  | 3, _ => exact ⟨_, (ex_ty hC 6 rfl).1⟩
  | n + 4, h => omega
theorem ex_aald {a n : Nat} {i : Int32} (hM : mt_ok M = true) (hf : mt_in M pc (.aaload) 1) (hn : n < 4) (hk : gx_K g a = 53 + n) (hin : vp_in i (gx_N g a)) (h0 : gx_O g a i.toNatClampNeg ≠ 0) (k : ex_W G d mc ms M (pc + 1) ls (.ref (gx_O g a i.toNatClampNeg) :: st) g Q) : ex_W G d mc ms M pc ls (.int i :: .ref a :: st) g Q := by
  intro p e R s m args9 below meth c H locs cells slots MC MS L hC hR hB hH hl hz
  have hlt : i.toNatClampNeg < gx_N g a := Nat.not_le.mp fun q => hin (Or.inr q)
  have hcell := (hH.2.2.2.1 a (by omega)).2.2.2.2.1 n hn hk
  obtain ⟨C, hA⟩ := ex_tyO hC hn
  exact W.aald (v := .ref (gx_O g a i.toNatClampNeg)) (ty := .object C) hC.1 hC.2.1 hcell (hA _ _) rfl (fun q => by cases q) (by rw [arrV_size]; exact hin) (by rw [arrV_read _ _ hlt]; simp [fx_v, h0]) rfl rfl (mt_dec hM hf) (k p e R s m args9 below meth c H locs cells slots MC MS L hC hR hB hH hl hz)
theorem ex_alen {a : Nat} (hM : mt_ok M = true) (hf : mt_in M pc (.arraylength) 1) (hk : gx_K g a = 50 ∨ gx_K g a = 51 ∨ gx_K g a = 60) (k : ex_W G d mc ms M (pc + 1) ls (.int (Int32.ofNat (gx_N g a)) :: st) g Q) : ex_W G d mc ms M pc ls (.ref a :: st) g Q := by
  intro p e R s m args9 below meth c H locs cells slots MC MS L hC hR hB hH hl hz
  have kk := k p e R s m args9 below meth c H locs cells slots MC MS L hC hR hB hH hl hz
  rcases hk with hk | hk | hk
  · exact W.alen (n := Int32.ofNat (gx_N g a)) hC.1 hC.2.1 ((hH.2.2.2.1 a (by omega)).2.1 hk) ((ex_ty hC 0 rfl).1 _ _) (by rw [arrV_size] <;> rfl) rfl rfl (mt_dec hM hf) kk
  · exact W.alen (n := Int32.ofNat (gx_N g a)) hC.1 hC.2.1 ((hH.2.2.2.1 a (by omega)).2.2.1 hk) ((ex_ty hC 1 rfl).1 _ _) (by rw [arrV_size] <;> rfl) rfl rfl (mt_dec hM hf) kk
  · obtain ⟨scr, e1, e2, e3, e4, e5⟩ := (hH.2.2.2.1 a (by omega)).2.2.2.2.2 hk
    exact W.alen (n := Int32.ofNat (gx_N g a)) hC.1 hC.2.1 e1 e2 (by rw [e4] <;> rfl) rfl rfl (mt_dec hM hf) kk
end EM
theorem ex_getI {G : GE} {d mc ms : Nat} {M : MT} {pc : Nat} {ls : List (Nat × Value)} {st : List Value} {g : GT} {Q : RT → GT → Prop} {idx ci j a : Nat} (hM : mt_ok M = true) (hf : mt_in M pc (.getfield idx) 3) (hp : (mt_f M).lookup idx = some (ci, j)) (hr : fx_R ci j = false) (hk : gx_K g a = ci + 1) (k : ex_W G d mc ms M (pc + 3) ls (.int (gx_I g (100 * ci + j) a) :: st) g Q) : ex_W G d mc ms M pc ls (.ref a :: st) g Q :=
  ex_get hM hf hp hk (by unfold fx_V; rw [if_neg (by rw [hr]; decide)]; exact k)
theorem ex_getR {G : GE} {d mc ms : Nat} {M : MT} {pc : Nat} {ls : List (Nat × Value)} {st : List Value} {g : GT} {Q : RT → GT → Prop} {idx ci j a : Nat} (hM : mt_ok M = true) (hf : mt_in M pc (.getfield idx) 3) (hp : (mt_f M).lookup idx = some (ci, j)) (hr : fx_R ci j = true) (hk : gx_K g a = ci + 1) (h0 : gx_R g (100 * ci + j) a ≠ 0) (k : ex_W G d mc ms M (pc + 3) ls (.ref (gx_R g (100 * ci + j) a) :: st) g Q) : ex_W G d mc ms M pc ls (.ref a :: st) g Q :=
  ex_get hM hf hp hk (by unfold fx_V fx_v; rw [if_pos hr, if_neg h0]; exact k)
