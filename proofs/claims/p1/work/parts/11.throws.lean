/-! ===== constructors' calls, throws, copies of rows ===== -/
def tx_names : List String := ["java/lang/RuntimeException", "java/lang/Exception"]
def tx_ok (own : String) (ik ic e : Nat) : Bool := decide (∀ w ∈ (Cond.classLink own ik (cx_E e) :: Cond.initialized (cx_E e) :: vx_atS own ic (cx_E e) tx_names), vx_ot w = true ∧ ((goodWord w = true ∧ w ∈ lw_tbl) ∨ w ∈ cx_face))
section ET
variable {G : GE} {d mc ms : Nat} {M : MT} {pc : Nat} {ls : List (Nat × Value)} {st : List Value} {g : GT} {Q : RT → GT → Prop}
theorem gx_H.grow {U t : State} {H : Heap} (h : gx_H G U g H) (hvm : U.vm.Alike t.vm) (hs : H.size ≤ t.heap.size) (hk : ∀ q : Nat, q < H.size → t.heap[q]? = H[q]?) : gx_H G t (px_Z g t.heap.size) t.heap := by
  have h := h.moved hvm
  obtain ⟨h1, h2, h3, h4, h5, h6⟩ := h
  have hkp : ∀ q : Nat, q < H.size → ¬ ge_b G ≤ q → t.heap[q]? = H[q]? := fun q hq _ => hk q hq
  refine ⟨rfl, ⟨h2.1, ?_⟩, fun a ha => ?_, fun a ha => ?_, h5.kept hkp, h6.kept hkp⟩
  · show ge_b G ≤ t.heap.size
    omega
  · have := h3 a ha
    refine ⟨?_, this.2⟩
    show a < t.heap.size
    omega
  · have hlt : a < H.size := by rw [h1]; exact (h3 a ha).1
    exact ((h4 a ha).kept (hk a hlt)).same rfl rfl (fun _ => rfl) (fun _ => rfl) (fun _ => rfl) (fun _ => rfl) (fun _ => rfl)
theorem tx_w {p : Program} {s : State} {m : MethodId} {args : Array Value} {meth : Method} {c : Code} {own : String} {ik ic e : Nat} (hC : cx_C G M p s m args meth c) (h : tx_ok own ik ic e = true) : (∀ w ∈ (Cond.classLink own ik (cx_E e) :: Cond.initialized (cx_E e) :: vx_atS own ic (cx_E e) tx_names), w.before args s = true) ∧ ∀ w ∈ (Cond.classLink own ik (cx_E e) :: Cond.initialized (cx_E e) :: vx_atS own ic (cx_E e) tx_names), vx_ot w = true := by
  have h := of_decide_eq_true h
  refine ⟨fun w hw => ?_, fun w hw => (h w hw).1⟩
  rcases (h w hw).2 with ⟨h1, h2⟩ | h2
  · exact hC.2.2.2.2.1 w h2 h1
  · have h3 := hC.2.2.2.2.2.2.2.2.2.1.2.2.2.2.2.2.2.1 w h2
    simp only [cx_face, List.mem_cons, List.not_mem_nil, or_false] at h2
    rcases h2 with rfl | rfl | rfl | rfl | rfl | rfl <;> exact va_Nw.use rfl h3
theorem tx_fit : ∀ e, 100 ≤ e → Bundle.fit (cx_E e) = true := by
  intro e he
  unfold cx_E
  split <;> decide +kernel
theorem tx_fits : ∀ n ∈ tx_names, Bundle.fit n = true := by decide +kernel
theorem tx_S {p : Program} {e : Env} {R : Room} {s : State} {m : MethodId} {args : Array Value} {below : List Frame} {meth : Method} {c : Code} {H : Heap} {locs : List Loc} {cells slots : Nat} {T : State} (hC : cx_C G M p s m args meth c) (hH : gx_H G s g H) (hz : ∀ z ∈ locs, ge_b G ≤ z.base) (hT : T.heap = H) (X : Stand p (ge_l G) e R s m args below meth c T locs cells slots) :
    va_S (fun q => ge_b G ≤ q) s.heap H locs ∧ vx_Zq Bundle.tN "UNASSIGNED_STACK" Bundle.steD (fun q => ge_b G ≤ q) s s.heap ∧ vx_Zq Bundle.tN "SUPPRESSED_SENTINEL" Bundle.listD (fun q => ge_b G ≤ q) s s.heap := by
  obtain ⟨f1, f2⟩ := vx_frame (U := T) X.same
  rw [hT] at f1 f2
  have hb := hC.2.2.2.2.2.2.2.2.2.2.2
  have hk : ∀ q : Nat, q < s.heap.size → ¬ ge_b G ≤ q → H[q]? = s.heap[q]? := fun q hq hn => f2 q hq (fun z hz1 e1 => hn (by rw [← e1]; exact hz z hz1))
  have hk2 : ∀ q : Nat, q < H.size → ¬ ge_b G ≤ q → s.heap[q]? = H[q]? := fun q _ hn => (hk q (by omega) hn).symm
  exact ⟨⟨f1, hk, hz⟩, hH.2.2.2.2.1.kept hk2, hH.2.2.2.2.2.kept hk2⟩
/-- 'throw new E("text")', the text by a narrow index -/
theorem ex_throw {ik is ic e : Nat} {text : String} (hM : mt_ok M = true) (f0 : mt_in M pc (.new ik) 3) (f1 : mt_in M (pc + 3) (.dup) 1) (f2 : mt_in M (pc + 4) (.ldc is) 2) (f3 : mt_in M (pc + 6) (.invokespecial ic) 3) (f4 : mt_in M (pc + 9) (.athrow) 1)
    (he : 100 ≤ e) (hx : tx_ok (mt_y M).cls ik ic e = true) (hs : ((mt_y M).cls, is, text) ∈ cx_strs) (hh : mt_h M = []) (h1 : 1 ≤ mc) (h6 : 6 ≤ ms) (hcat : (st.map fun v => v.category).sum ≤ 8) (hq : ∀ n, gx_Z g ≤ n → Q (.inr (cx_E e)) (px_Z g n)) : ex_W G d mc ms M pc ls st g Q := by
  intro p e9 R s m args9 below meth c H locs cells slots MC MS L hC hR hB hH hl hz T hT X
  obtain ⟨w1, w2⟩ := tx_w hC hx
  obtain ⟨sa, hsa⟩ := hC.2.2.2.2.2.2.2.2.2.1.2.2.1 _ hs
  obtain ⟨z1, z2, z3, z4, z5, z6⟩ := id hH
  obtain ⟨s1, s2, s3⟩ := tx_S hC hH hz hT X
  refine vx_throwS (A := fun q => ge_b G ≤ q) hC.1 hC.2.1 hC.2.2.2.2.2.2.2.2.2.2.1 hC.2.2.2.1 (tx_fit e he) tx_fits (w1 _ List.mem_cons_self) (w1 _ (List.mem_cons_of_mem _ List.mem_cons_self)) hsa (fun w hw => w1 w (List.mem_cons_of_mem _ (List.mem_cons_of_mem _ hw))) w2 s2 s3 s1 (hl.1.trans hC.2.2.1.symm)
    (mt_dec hM f0) (mt_dec hM f1) (mt_dec hM f2) (mt_dec hM f3) (mt_dec hM f4) (fun x hx => by rw [hC.2.2.2.2.2.2.2.2.1, hh] at hx; cases hx) (by simp only [tx_names, List.length_cons, List.length_nil]; omega) (by simp only [tx_names, List.length_cons, List.length_nil]; omega) (by omega) (by omega) hC.2.2.2.2.2.2.1
    (fun t hal hsz hk => ⟨px_Z g t.heap.size, hq _ (by rw [← z1]; exact hsz), hH.grow hal hsz hk⟩) hz (by omega) (by omega) T hT X
/-- 'throw new E("text")', the text by a wide index -/
theorem ex_throwW {ik is ic e : Nat} {text : String} (hM : mt_ok M = true) (f0 : mt_in M pc (.new ik) 3) (f1 : mt_in M (pc + 3) (.dup) 1) (f2 : mt_in M (pc + 4) (.ldc_w is) 3) (f3 : mt_in M (pc + 7) (.invokespecial ic) 3) (f4 : mt_in M (pc + 10) (.athrow) 1)
    (he : 100 ≤ e) (hx : tx_ok (mt_y M).cls ik ic e = true) (hs : ((mt_y M).cls, is, text) ∈ cx_strs) (hh : mt_h M = []) (h1 : 1 ≤ mc) (h6 : 6 ≤ ms) (hcat : (st.map fun v => v.category).sum ≤ 8) (hq : ∀ n, gx_Z g ≤ n → Q (.inr (cx_E e)) (px_Z g n)) : ex_W G d mc ms M pc ls st g Q := by
  intro p e9 R s m args9 below meth c H locs cells slots MC MS L hC hR hB hH hl hz T hT X
  obtain ⟨w1, w2⟩ := tx_w hC hx
  obtain ⟨sa, hsa⟩ := hC.2.2.2.2.2.2.2.2.2.1.2.2.1 _ hs
  obtain ⟨z1, z2, z3, z4, z5, z6⟩ := id hH
  obtain ⟨s1, s2, s3⟩ := tx_S hC hH hz hT X
  refine vx_throwSW (A := fun q => ge_b G ≤ q) hC.1 hC.2.1 hC.2.2.2.2.2.2.2.2.2.2.1 hC.2.2.2.1 (tx_fit e he) tx_fits (w1 _ List.mem_cons_self) (w1 _ (List.mem_cons_of_mem _ List.mem_cons_self)) hsa (fun w hw => w1 w (List.mem_cons_of_mem _ (List.mem_cons_of_mem _ hw))) w2 s2 s3 s1 (hl.1.trans hC.2.2.1.symm)
    (mt_dec hM f0) (mt_dec hM f1) (mt_dec hM f2) (mt_dec hM f3) (mt_dec hM f4) (fun x hx => by rw [hC.2.2.2.2.2.2.2.2.1, hh] at hx; cases hx) (by simp only [tx_names, List.length_cons, List.length_nil]; omega) (by simp only [tx_names, List.length_cons, List.length_nil]; omega) (by omega) (by omega) hC.2.2.2.2.2.2.1
    (fun t hal hsz hk => ⟨px_Z g t.heap.size, hq _ (by rw [← z1]; exact hsz), hH.grow hal hsz hk⟩) hz (by omega) (by omega) T hT X
/-! constructors -/
theorem ex_objInit {idx n d1 mc1 ms1 a : Nat} {y : MethodName} (hM : mt_ok M = true) (hf : mt_in M pc (.invokespecial idx) 3) (hp : (mt_m M).lookup idx = some (y, n, 3, d1, mc1, ms1)) (hcat : (st.map fun v => v.category).sum ≤ 8) (k : ex_W G d mc ms M (pc + 3) ls st g Q) : ex_W G d mc ms M pc ls (.ref a :: st) g Q := by
  intro p e R s m args9 below meth c H locs cells slots MC MS L hC hR hB hH hl hz
  have w1 := mt_wd hM hC (mt_min hp (w := .methodLink (mt_y M).cls idx objectInit) (by simp [mt_mw]))
  have w2 := mt_wd hM hC (mt_min hp (w := .instanceMethod objectInit) (by simp [mt_mw]))
  have w3 := mt_wd hM hC (mt_min hp (w := .code objectInit ⟨#[0xb1]⟩ 1 none) (by simp [mt_mw]))
  refine W.objInit hC.1 hC.2.1 hC.2.2.2.1 w1 w2 w3 rfl (by rw [hC.2.2.1]; exact hl.1) rfl (mt_dec hM hf) (by omega) ?_ (k p e R s m args9 below meth c H locs cells slots MC MS L hC hR hB hH hl hz)
  show 2 * 0 + (st.map fun v => v.category).sum + 12 ≤ R.locals
  omega
theorem ex_callI {idx n d1 mc1 ms1 b : Nat} {y : MethodName} {As : List Value} {Q1 : RT → GT → Prop} (hM : mt_ok M = true) (hf : mt_in M pc (.invokespecial idx) 3) (hp : (mt_m M).lookup idx = some (y, n, 2, d1, mc1, ms1)) (hh : mt_h M = []) (hd : d1 < d) (hlen : As.length = n) (hi : y.name = "<init>")
    (hcat : (st.map fun v => v.category).sum ≤ 8) (hm : mc1 ≤ mc ∧ ms1 ≤ ms) (hcall : ex_M G d1 mc1 ms1 y (.ref b :: As) g Q1) (hr0 : ∀ bytes maxL ret, Cond.code y bytes maxL ret ∈ lw_tbl → ret = none) (hq : ∀ E g', ¬ Q1 (.inr E) g')
    (k1 : ∀ v g', Q1 (.inl v) g' → ex_W G d (mc - mc1) (ms - ms1) M (pc + 3) ls (v.toList ++ st) g' Q) : ex_W G d mc ms M pc ls (As.reverse ++ .ref b :: st) g Q := by
  intro p e R s m args9 below meth c H locs cells slots MC MS L hC hR hB hH hl hz
  obtain ⟨bytes, maxL, ret, hcode, h40, hmet⟩ := hcall
  obtain rfl := hr0 _ _ _ hcode
  have hts : ∀ w ∈ tb_G, w.before args9 s = true := fun w hw => hC.2.2.2.2.1 w (List.mem_filter.mp hw).1 (List.mem_filter.mp hw).2
  have hgood : GoodIn tb_G (ex_ws (.code y bytes maxL none)) := tb_good (fun w hw => by
    rcases List.mem_cons.mp hw with rfl | h
    · exact tb_in hcode rfl
    · exact h)
  have w1 := mt_wd hM hC (mt_min hp (w := .methodLink (mt_y M).cls idx y) (by simp [mt_mw]))
  have w2 := mt_wd hM hC (mt_min hp (w := .instanceMethod y) (by simp [mt_mw]))
  have w3 := mt_wd hM hC (mt_min hp (w := .initialized y.cls) (by simp [mt_mw]))
  refine ex_back (a := (Value.ref b :: As).toArray) hC hR hB hl hz hm hh (ex_quiet (va_runI (As := As) (rest := st) (nL := mt_l M) ⟨hC.1, hC.2.1, hC.2.2.1, hC.2.2.2.1, hts⟩ (ex_M.met hmet hq) ⟨callB_of n hts hgood rfl rfl rfl w3 w1 (mt_mok hM hp) ?_, hi, w2⟩ ⟨ex_blind, fun U hU hW => ⟨rfl, by rw [hU]; exact hH.moved hW.alike, cx_K.warm hW hC.2.2.2.2.2.2.2.2.2.1⟩⟩ rfl hlen hl.1 rfl (lv_room hcat) (mt_dec hM hf) (by omega))) k1 (fun E g' h => absurd h (hq E g'))
  show d1 + 8 + 1 ≤ R.frames ∧ 8 + (maxL + 11) + 60 * (d1 + 8) ≤ R.locals
  omega
theorem ex_callIN {idx n d1 mc1 ms1 b : Nat} {y : MethodName} {As : List Value} {Q1 : RT → GT → Prop} (hM : mt_ok M = true) (hf : mt_in M pc (.invokespecial idx) 3) (hp : (mt_m M).lookup idx = some (y, n, 5, d1, mc1, ms1)) (hh : mt_h M = []) (hd : d1 < d) (hlen : As.length = n) (hi : y.name = "<init>") (hnest : Cond.methodLinkNest (mt_y M).cls idx y "RoundKeepers" ∈ cx_nest)
    (hcat : (st.map fun v => v.category).sum ≤ 8) (hm : mc1 ≤ mc ∧ ms1 ≤ ms) (hcall : ex_M G d1 mc1 ms1 y (.ref b :: As) g Q1) (hr0 : ∀ bytes maxL ret, Cond.code y bytes maxL ret ∈ lw_tbl → ret = none) (hq : ∀ E g', ¬ Q1 (.inr E) g')
    (k1 : ∀ v g', Q1 (.inl v) g' → ex_W G d (mc - mc1) (ms - ms1) M (pc + 3) ls (v.toList ++ st) g' Q) : ex_W G d mc ms M pc ls (As.reverse ++ .ref b :: st) g Q := by
  intro p e R s m args9 below meth c H locs cells slots MC MS L hC hR hB hH hl hz
  obtain ⟨bytes, maxL, ret, hcode, h40, hmet⟩ := hcall
  obtain rfl := hr0 _ _ _ hcode
  have hts : ∀ w ∈ tb_G, w.before args9 s = true := fun w hw => hC.2.2.2.2.1 w (List.mem_filter.mp hw).1 (List.mem_filter.mp hw).2
  have hgood : GoodIn tb_G (ex_ws (.code y bytes maxL none)) := tb_good (fun w hw => by
    rcases List.mem_cons.mp hw with rfl | h
    · exact tb_in hcode rfl
    · exact h)
  have w2 := mt_wd hM hC (mt_min hp (w := .instanceMethod y) (by simp [mt_mw]))
  have w3 := mt_wd hM hC (mt_min hp (w := .initialized y.cls) (by simp [mt_mw]))
  refine ex_back (a := (Value.ref b :: As).toArray) hC hR hB hl hz hm hh (ex_quiet (va_runIN (As := As) (rest := st) (nL := mt_l M) ⟨hC.1, hC.2.1, hC.2.2.1, hC.2.2.2.1, hts⟩ (ex_M.met hmet hq) ⟨va_cnB n hts hgood rfl rfl rfl (hC.2.2.2.2.2.2.2.2.2.1.2.1 _ hnest) w3 (mt_mok hM hp) ?_, hi, w2⟩ ⟨ex_blind, fun U hU hW => ⟨rfl, by rw [hU]; exact hH.moved hW.alike, cx_K.warm hW hC.2.2.2.2.2.2.2.2.2.1⟩⟩ rfl hlen hl.1 rfl (lv_room hcat) (mt_dec hM hf) (by omega))) k1 (fun E g' h => absurd h (hq E g'))
  show d1 + 8 + 1 ≤ R.frames ∧ 8 + (maxL + 11) + 60 * (d1 + 8) ≤ R.locals
  omega
end ET
