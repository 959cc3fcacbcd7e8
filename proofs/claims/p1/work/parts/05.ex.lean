/-! ===== METHODS AS RECORDS; THE JUDGEMENT ex_W; A RULE AN INSTRUCTION ===== -/
/-- name, bytes, locals, answer's type, exception table, instructions, fields (pool number, class, slot), calls (pool number, callee, arguments, kind, depth, cells, slots), classes (pool number, class), int constants, places of its words -/
abbrev MT : Type := MethodName × ByteArray × Nat × Option FieldType × List (Nat × Nat × Nat × Nat) × List (Nat × Instr × Nat) × List (Nat × Nat × Nat) × List (Nat × MethodName × Nat × Nat × Nat × Nat × Nat) × List (Nat × Nat) × List (Nat × Int32) × List Nat
def mt_y (M : MT) : MethodName := M.1
def mt_b (M : MT) : ByteArray := M.2.1
def mt_l (M : MT) : Nat := M.2.2.1
def mt_r (M : MT) : Option FieldType := M.2.2.2.1
def mt_h (M : MT) : List (Nat × Nat × Nat × Nat) := M.2.2.2.2.1
def mt_c (M : MT) : List (Nat × Instr × Nat) := M.2.2.2.2.2.1
def mt_f (M : MT) : List (Nat × Nat × Nat) := M.2.2.2.2.2.2.1
def mt_m (M : MT) : List (Nat × MethodName × Nat × Nat × Nat × Nat × Nat) := M.2.2.2.2.2.2.2.1
def mt_k (M : MT) : List (Nat × Nat) := M.2.2.2.2.2.2.2.2.1
def mt_i (M : MT) : List (Nat × Int32) := M.2.2.2.2.2.2.2.2.2.1
def mt_x (M : MT) : List Nat := M.2.2.2.2.2.2.2.2.2.2
def mt_in (M : MT) (pc : Nat) (i : Instr) (len : Nat) : Prop := (pc, i, len) ∈ mt_c M
def cx_T (ci : Nat) : u_T := (cx_cl.getD ci ("", TX0, 0)).2.1
def cx_N (ci : Nat) : Nat := (cx_cl.getD ci ("", TX0, 0)).2.2
def cx_R (ci : Nat) : String := (cx_cl.getD ci ("", TX0, 0)).1
/-- the exceptions that are thrown, by number -/
def cx_E (k : Nat) : String := match k with
  | 100 => "java/lang/IndexOutOfBoundsException"
  | 101 => "java/lang/IllegalArgumentException"
  | _ => "java/lang/IllegalStateException"
/-- the words that a call's kind wants -/
def mt_mw (own : String) (q : Nat × MethodName × Nat × Nat × Nat × Nat × Nat) : List Cond := match q.2.2.2.1 with
  | 1 => [.methodLink own q.1 q.2.1, .static q.2.1, .initialized q.2.1.cls]
  | 2 => [.methodLink own q.1 q.2.1, .instanceMethod q.2.1, .initialized q.2.1.cls]
  | 3 => [.methodLink own q.1 objectInit, .instanceMethod objectInit, .code objectInit ⟨#[0xb1]⟩ 1 none]
  | 4 => [.static q.2.1, .initialized q.2.1.cls]
  | 5 => [.instanceMethod q.2.1, .initialized q.2.1.cls]
  | 7 => [.methodLink own q.1 q.2.1, .static q.2.1, .initialized q.2.1.cls]
  | 8 => [.methodLink own q.1 q.2.1, .static q.2.1, .initialized q.2.1.cls, .code q.2.1 Lib.Math.max.code 2 (some .int)]
  | _ => [.methodLink own q.1 q.2.1, .instanceMethod q.2.1, .selects q.2.1.cls q.2.1 q.2.1, .initialized q.2.1.cls]
def mt_kw (own : String) (q : Nat × Nat) : List Cond := if q.2 < 13 then [.classLink own q.1 (cx_R q.2), .instantiable (cx_R q.2) (cx_N q.2), .initialized (cx_R q.2)] else if q.2 < 60 then [.classLink own q.1 (cx_R (q.2 - 20))] else [.classLink own q.1 (cx_E q.2), .initialized (cx_E q.2)]
def mt_need (M : MT) : List Cond :=
  (mt_f M).map (fun q => .fieldLink (mt_y M).cls q.1 (cx_T q.2.1 q.2.2).1 (cx_T q.2.1 q.2.2).2.1 (cx_T q.2.1 q.2.2).2.2.1) ++ (mt_m M).flatMap (mt_mw (mt_y M).cls) ++ (mt_k M).flatMap (mt_kw (mt_y M).cls) ++ (mt_i M).map (fun q => .constant (mt_y M).cls q.1 q.2)
/-- a field may be stored here: it isn't final, or this is its class's constructor -/
def mt_fin (M : MT) (ci j : Nat) : Bool := !(cx_T ci j).2.2.2 || ((mt_y M).name == "<init>" && (cx_T ci j).1 == (mt_y M).cls)
/-- what is to be seen of an instruction once and for all -/
def mt_io (M : MT) (i : Instr) : Bool := match i with
  | .putfield idx => match (mt_f M).lookup idx with
    | some (ci, j) => mt_fin M ci j
    | none => false
  | .istore k => decide (k < mt_l M)
  | .astore k => decide (k < mt_l M)
  | .istore_n k => decide (k.val < mt_l M)
  | .astore_n k => decide (k.val < mt_l M)
  | .iinc k _ => decide (k < mt_l M)
  | _ => true
def mt_ok (M : MT) : Bool :=
  (mt_c M).all (fun q => mt_io M q.2.1) &&
  (mt_c M).all (fun q => decide (decode (mt_b M) q.1 = .ok (q.2.1, q.2.2))) && decide (mt_need M = (mt_x M).filterMap (fun i => lw_tbl[i]?)) && (mt_need M).all goodWord &&
  (mt_f M).all (fun q => decide (q.2.1 < 13 ∧ q.2.2 < cx_N q.2.1)) && (mt_m M).all (fun q => decide ((q.2.2.2.1 < 10 ∨ (q.2.2.2.1 < 23 ∧ q.2.1.cls = cx_R (q.2.2.2.1 - 10))) ∧ q.2.1.cls ≠ "java/lang/invoke/MethodHandle" ∧ q.2.1.cls ≠ "java/lang/invoke/VarHandle" ∧ (parseMethodDescriptor q.2.1.desc).map (fun d => d.parameters.length) = some q.2.2.1)) && decide (mt_l M ≤ 40) && plainName (mt_y M).cls
theorem mt_mem {α β : Type} [BEq α] [LawfulBEq α] {k : α} {v : β} : ∀ {l : List (α × β)}, l.lookup k = some v → (k, v) ∈ l := by
  intro l
  induction l with
  | nil => intro h; cases h
  | cons q t ih =>
    intro h
    obtain ⟨a, b⟩ := q
    rw [List.lookup_cons] at h
    by_cases e : (k == a) = true
    · simp only [e] at h
      cases h
      rw [eq_of_beq e]
      exact List.mem_cons_self
    · have e' : (k == a) = false := by simpa using e
      simp only [e'] at h
      exact List.mem_cons_of_mem _ (ih h)
theorem mt_ok_spec {M : MT} (h : mt_ok M = true) : (∀ q ∈ mt_c M, decode (mt_b M) q.1 = .ok (q.2.1, q.2.2)) ∧ (∀ w ∈ mt_need M, w ∈ lw_tbl ∧ goodWord w = true) ∧ (∀ q ∈ mt_f M, q.2.1 < 13 ∧ q.2.2 < cx_N q.2.1) ∧
    (∀ q ∈ mt_m M, (q.2.2.2.1 < 10 ∨ (q.2.2.2.1 < 23 ∧ q.2.1.cls = cx_R (q.2.2.2.1 - 10))) ∧ q.2.1.cls ≠ "java/lang/invoke/MethodHandle" ∧ q.2.1.cls ≠ "java/lang/invoke/VarHandle" ∧ (parseMethodDescriptor q.2.1.desc).map (fun d => d.parameters.length) = some q.2.2.1) ∧ mt_l M ≤ 40 ∧ plainName (mt_y M).cls = true ∧ ∀ q ∈ mt_c M, mt_io M q.2.1 = true := by
  simp only [mt_ok, Bool.and_eq_true, List.all_eq_true, decide_eq_true_eq] at h
  obtain ⟨⟨⟨⟨⟨⟨⟨h0, h1⟩, h2⟩, h3⟩, h4⟩, h5⟩, h6⟩, h7⟩ := h
  refine ⟨fun q hq => h1 q hq, fun w hw => ⟨?_, h3 w hw⟩, fun q hq => h4 q hq, fun q hq => h5 q hq, h6, h7, fun q hq => h0 q hq⟩
  rw [h2] at hw
  obtain ⟨i, -, hi⟩ := List.mem_filterMap.mp hw
  exact List.mem_of_getElem? hi
theorem mt_dec {M : MT} (hM : mt_ok M = true) {pc len : Nat} {i : Instr} (hf : mt_in M pc i len) : decode (mt_b M) pc = .ok (i, len) := by
  have h1 : (pc, i, len) ∈ mt_c M := hf
  have h2 := (mt_ok_spec hM).1 (pc, i, len) h1
  dsimp only at h2
  exact h2
theorem mt_iok {M : MT} (hM : mt_ok M = true) {pc len : Nat} {i : Instr} (hf : mt_in M pc i len) : mt_io M i = true := by
  have h1 : (pc, i, len) ∈ mt_c M := hf
  exact (mt_ok_spec hM).2.2.2.2.2.2 (pc, i, len) h1
/-! what holds of the tables at every point of a run -/
def cx_nest : List Cond := [.methodLinkNest "RoundKeepers$Air" 17 ⟨"RoundKeepers$Message", "<init>", "()V"⟩ "RoundKeepers", .methodLinkNest "RoundKeepers$Leader" 49 ⟨"RoundKeepers$Collecting", "<init>", "()V"⟩ "RoundKeepers", .methodLinkNest "RoundKeepers$Slots" 38 ⟨"RoundKeepers", "isSlot", "(I)Z"⟩ "RoundKeepers", .methodLinkNest "RoundKeepers$Leader" 228 ⟨"RoundKeepers", "areTwo", "(I)Z"⟩ "RoundKeepers", .methodLinkNest "RoundKeepers$Leader" 254 ⟨"RoundKeepers", "isMajority", "(II)Z"⟩ "RoundKeepers", .methodLinkNest "RoundKeepers$Slots" 42 ⟨"RoundKeepers", "isMajority", "(II)Z"⟩ "RoundKeepers", .methodLinkNest "RoundKeepers$Slots" 55 ⟨"RoundKeepers", "areTwo", "(I)Z"⟩ "RoundKeepers", .methodLinkNest "RoundKeepers$Keeping" 108 ⟨"RoundKeepers", "areTwo", "(I)Z"⟩ "RoundKeepers", .methodLinkNest "RoundKeepers$Voter" 82 ⟨"RoundKeepers", "isSlot", "(I)Z"⟩ "RoundKeepers", .methodLinkNest "RoundKeepers$Tally" 38 ⟨"RoundKeepers", "isSlot", "(I)Z"⟩ "RoundKeepers", .methodLinkNest "RoundKeepers$Tally" 42 ⟨"RoundKeepers", "isMajority", "(II)Z"⟩ "RoundKeepers", .methodLinkNest "RoundKeepers$Copies" 37 ⟨"RoundKeepers", "isSlot", "(I)Z"⟩ "RoundKeepers"]
def cx_iS (c : String) : MethodName := ⟨c, "<init>", "(Ljava/lang/String;)V"⟩
def cx_face : List Cond := [.declares (cx_iS "java/lang/RuntimeException"), .declares (cx_iS "java/lang/Exception"), .declares (cx_iS "java/lang/Throwable"), .castable (cx_E 100) (cx_E 100), .castable (cx_E 101) (cx_E 101), .castable (cx_E 102) (cx_E 102)]
def cx_strs : List (String × Nat × String) := [("RoundKeepers", 263, "there is no such node, message, slot, what or place"), ("RoundKeepers", 87, "the round is not the leader's next, or that is no group"), ("RoundKeepers", 258, "the leader is down"), ("RoundKeepers", 107, "the value is not 1 .. 1000000"), ("RoundKeepers", 129, "the ballot is not the leader's next, or that is no set"), ("RoundKeepers", 156, "the number is not 0 .. 2000")]
def cx_K (G : GE) (s : State) : Prop := va_K (ge_D G) cx_cl (cx_tys G) s ∧ (∀ w ∈ cx_nest, va_Nw w s) ∧ (∀ q ∈ cx_strs, ∃ sa : Nat, vk_R q.1 q.2.1 q.2.2 sa s) ∧ va_AO RX6 s ∧ va_AO RX5 s ∧ va_AO RX3 s ∧ va_AO RX10 s ∧ (∀ w ∈ cx_face, va_Nw w s) ∧ va_Nc (cx_E 101) (cx_E 100) s ∧ va_Nc (cx_E 102) (cx_E 100) s ∧ va_Nc (cx_E 102) (cx_E 101) s
def cx_C (G : GE) (M : MT) (p : Program) (s : State) (m : MethodId) (args : Array Value) (meth : Method) (c : Code) : Prop :=
  p.tables.exec = Jvm.exec ∧ c.code = mt_b M ∧ c.maxLocals = mt_l M ∧ s.vm.findClass (mt_y M).cls = some m.cls ∧ (∀ w ∈ lw_tbl, goodWord w = true → w.before args s = true) ∧ meth.sig.returnType = mt_r M ∧ meth.locks = false ∧ meth.name = (mt_y M).name ∧ c.exceptionTable.toList = tableOf (mt_h M) ∧ cx_K G s ∧ (ge_l G).stackTraces = false ∧ ge_b G ≤ s.heap.size
abbrev RT : Type := Option Value ⊕ String
def ex_Qc (G : GE) (Q : RT → GT → Prop) : Array Value → State → Outcome → State → Prop := fun _ _ o t => ∃ (v : Option Value) (g : GT), o = .returned v ∧ Q (.inl v) g ∧ gx_H G t g t.heap
def ex_XC (G : GE) (Q : RT → GT → Prop) : String → State → State → Prop := fun E _ t => ∃ g : GT, Q (.inr E) g ∧ gx_H G t g t.heap
/-- from here the method comes to its end with Q: depth d, cells mc and slots ms at most -/
def ex_W (G : GE) (d mc ms : Nat) (M : MT) (pc : Nat) (ls : List (Nat × Value)) (st : List Value) (g : GT) (Q : RT → GT → Prop) : Prop :=
  ∀ (p : Program) (e : Env) (R : Room) (s : State) (m : MethodId) (args : Array Value) (below : List Frame) (meth : Method) (c : Code) (H : Heap) (locs : List Loc) (cells slots MC MS : Nat) (L : Array Slot),
    cx_C G M p s m args meth c → d + 8 ≤ R.frames ∧ 60 * (d + 8) ≤ R.locals → cells + mc ≤ MC ∧ slots + ms ≤ MS ∧ MC ≤ R.cells ∧ MS ≤ R.slots → gx_H G s g H → lv_has L (mt_l M) ls → (∀ z ∈ locs, ge_b G ≤ z.base) →
    W p (ge_l G) e R s m args below meth c H locs cells slots (vx_MQ below (ex_Qc G Q) (ex_XC G Q) args s MC MS (fun q => ge_b G ≤ q)) (F0 m pc L st)
theorem lx_get {ls : List (Nat × Value)} {L : Array Slot} {n i : Nat} {v : Value} (h : lv_has L n ls) (hi : ls.lookup i = some v) : L[i]? = some (.val v) := h.2.2 (i, v) (mt_mem hi)
def lx_set (ls : List (Nat × Value)) (i : Nat) (v : Value) : List (Nat × Value) := (i, v) :: ls.filter (fun q => !(q.1 == i) && !(q.1 + 1 == i && q.2.category == 2))
section EX
variable {G : GE} {d mc ms : Nat} {M : MT} {pc : Nat} {ls : List (Nat × Value)} {st : List Value} {g : GT} {Q : RT → GT → Prop}
theorem ex_iconst {n : Int} (hM : mt_ok M = true) (hf : mt_in M pc (.iconst n) 1)  (k : ex_W G d mc ms M (pc + 1) ls (.int (Int32.ofInt n) :: st) g Q) : ex_W G d mc ms M pc ls (st) g Q := by
  intro p e R s m args9 below meth c H locs cells slots MC MS L hC hR hB hH hl hz
  exact lv_iconst hC.1 hC.2.1 (mt_dec hM hf) rfl (k p e R s m args9 below meth c H locs cells slots MC MS L hC hR hB hH hl hz)
theorem ex_bipush {n : Int} (hM : mt_ok M = true) (hf : mt_in M pc (.bipush n) 2)  (k : ex_W G d mc ms M (pc + 2) ls (.int (Int8.ofInt n).toInt32 :: st) g Q) : ex_W G d mc ms M pc ls (st) g Q := by
  intro p e R s m args9 below meth c H locs cells slots MC MS L hC hR hB hH hl hz
  exact lv_bipush hC.1 hC.2.1 (mt_dec hM hf) rfl (k p e R s m args9 below meth c H locs cells slots MC MS L hC hR hB hH hl hz)
theorem ex_sipush {n : Int} (hM : mt_ok M = true) (hf : mt_in M pc (.sipush n) 3)  (k : ex_W G d mc ms M (pc + 3) ls (.int (Int16.ofInt n).toInt32 :: st) g Q) : ex_W G d mc ms M pc ls (st) g Q := by
  intro p e R s m args9 below meth c H locs cells slots MC MS L hC hR hB hH hl hz
  exact lv_sipush hC.1 hC.2.1 (mt_dec hM hf) rfl (k p e R s m args9 below meth c H locs cells slots MC MS L hC hR hB hH hl hz)
theorem ex_lconst {n : Fin 2} (hM : mt_ok M = true) (hf : mt_in M pc (.lconst n) 1)  (k : ex_W G d mc ms M (pc + 1) ls (.long (Int64.ofNat n) :: st) g Q) : ex_W G d mc ms M pc ls (st) g Q := by
  intro p e R s m args9 below meth c H locs cells slots MC MS L hC hR hB hH hl hz
  exact lv_lconst hC.1 hC.2.1 (mt_dec hM hf) rfl (k p e R s m args9 below meth c H locs cells slots MC MS L hC hR hB hH hl hz)
theorem ex_iload_n {n : Fin 4} {x : Int32} (hM : mt_ok M = true) (hf : mt_in M pc (.iload_n n) 1) (hv : ls.lookup (n : Nat) = some (.int x)) (k : ex_W G d mc ms M (pc + 1) ls (.int x :: st) g Q) : ex_W G d mc ms M pc ls (st) g Q := by
  intro p e R s m args9 below meth c H locs cells slots MC MS L hC hR hB hH hl hz
  exact lv_iload_n hC.1 hC.2.1 (mt_dec hM hf) rfl (lx_get hl hv) (k p e R s m args9 below meth c H locs cells slots MC MS L hC hR hB hH hl hz)
theorem ex_iload {n : Nat} {x : Int32} (hM : mt_ok M = true) (hf : mt_in M pc (.iload n) 2) (hv : ls.lookup n = some (.int x)) (k : ex_W G d mc ms M (pc + 2) ls (.int x :: st) g Q) : ex_W G d mc ms M pc ls (st) g Q := by
  intro p e R s m args9 below meth c H locs cells slots MC MS L hC hR hB hH hl hz
  exact lv_iload hC.1 hC.2.1 (mt_dec hM hf) (lx_get hl hv) (k p e R s m args9 below meth c H locs cells slots MC MS L hC hR hB hH hl hz)
theorem ex_lload_n {n : Fin 4} {x : Int64} (hM : mt_ok M = true) (hf : mt_in M pc (.lload_n n) 1) (hv : ls.lookup (n : Nat) = some (.long x)) (k : ex_W G d mc ms M (pc + 1) ls (.long x :: st) g Q) : ex_W G d mc ms M pc ls (st) g Q := by
  intro p e R s m args9 below meth c H locs cells slots MC MS L hC hR hB hH hl hz
  exact lv_lload_n hC.1 hC.2.1 (mt_dec hM hf) rfl (lx_get hl hv) (k p e R s m args9 below meth c H locs cells slots MC MS L hC hR hB hH hl hz)
theorem ex_aload_n {n : Fin 4} {x : Nat} (hM : mt_ok M = true) (hf : mt_in M pc (.aload_n n) 1) (hv : ls.lookup (n : Nat) = some (.ref x)) (k : ex_W G d mc ms M (pc + 1) ls (.ref x :: st) g Q) : ex_W G d mc ms M pc ls (st) g Q := by
  intro p e R s m args9 below meth c H locs cells slots MC MS L hC hR hB hH hl hz
  exact lv_aload_n hC.1 hC.2.1 (mt_dec hM hf) rfl (lx_get hl hv) (k p e R s m args9 below meth c H locs cells slots MC MS L hC hR hB hH hl hz)
theorem ex_aload {n : Nat} {x : Nat} (hM : mt_ok M = true) (hf : mt_in M pc (.aload n) 2) (hv : ls.lookup n = some (.ref x)) (k : ex_W G d mc ms M (pc + 2) ls (.ref x :: st) g Q) : ex_W G d mc ms M pc ls (st) g Q := by
  intro p e R s m args9 below meth c H locs cells slots MC MS L hC hR hB hH hl hz
  exact lv_aload hC.1 hC.2.1 (mt_dec hM hf) (lx_get hl hv) (k p e R s m args9 below meth c H locs cells slots MC MS L hC hR hB hH hl hz)
theorem ex_iadd {x y : Int32} (hM : mt_ok M = true) (hf : mt_in M pc (.iadd) 1)  (k : ex_W G d mc ms M (pc + 1) ls (.int (x + y) :: st) g Q) : ex_W G d mc ms M pc ls (.int y :: .int x :: st) g Q := by
  intro p e R s m args9 below meth c H locs cells slots MC MS L hC hR hB hH hl hz
  exact lv_iadd hC.1 hC.2.1 (mt_dec hM hf)  (k p e R s m args9 below meth c H locs cells slots MC MS L hC hR hB hH hl hz)
theorem ex_isub {x y : Int32} (hM : mt_ok M = true) (hf : mt_in M pc (.isub) 1)  (k : ex_W G d mc ms M (pc + 1) ls (.int (x - y) :: st) g Q) : ex_W G d mc ms M pc ls (.int y :: .int x :: st) g Q := by
  intro p e R s m args9 below meth c H locs cells slots MC MS L hC hR hB hH hl hz
  exact lv_isub hC.1 hC.2.1 (mt_dec hM hf)  (k p e R s m args9 below meth c H locs cells slots MC MS L hC hR hB hH hl hz)
theorem ex_imul {x y : Int32} (hM : mt_ok M = true) (hf : mt_in M pc (.imul) 1)  (k : ex_W G d mc ms M (pc + 1) ls (.int (x * y) :: st) g Q) : ex_W G d mc ms M pc ls (.int y :: .int x :: st) g Q := by
  intro p e R s m args9 below meth c H locs cells slots MC MS L hC hR hB hH hl hz
  exact lv_imul hC.1 hC.2.1 (mt_dec hM hf)  (k p e R s m args9 below meth c H locs cells slots MC MS L hC hR hB hH hl hz)
theorem ex_iand {x y : Int32} (hM : mt_ok M = true) (hf : mt_in M pc (.iand) 1)  (k : ex_W G d mc ms M (pc + 1) ls (.int (x &&& y) :: st) g Q) : ex_W G d mc ms M pc ls (.int y :: .int x :: st) g Q := by
  intro p e R s m args9 below meth c H locs cells slots MC MS L hC hR hB hH hl hz
  exact lv_iand hC.1 hC.2.1 (mt_dec hM hf)  (k p e R s m args9 below meth c H locs cells slots MC MS L hC hR hB hH hl hz)
theorem ex_ior {x y : Int32} (hM : mt_ok M = true) (hf : mt_in M pc (.ior) 1)  (k : ex_W G d mc ms M (pc + 1) ls (.int (x ||| y) :: st) g Q) : ex_W G d mc ms M pc ls (.int y :: .int x :: st) g Q := by
  intro p e R s m args9 below meth c H locs cells slots MC MS L hC hR hB hH hl hz
  exact lv_ior hC.1 hC.2.1 (mt_dec hM hf)  (k p e R s m args9 below meth c H locs cells slots MC MS L hC hR hB hH hl hz)
theorem ex_ixor {x y : Int32} (hM : mt_ok M = true) (hf : mt_in M pc (.ixor) 1)  (k : ex_W G d mc ms M (pc + 1) ls (.int (x ^^^ y) :: st) g Q) : ex_W G d mc ms M pc ls (.int y :: .int x :: st) g Q := by
  intro p e R s m args9 below meth c H locs cells slots MC MS L hC hR hB hH hl hz
  exact lv_ixor hC.1 hC.2.1 (mt_dec hM hf)  (k p e R s m args9 below meth c H locs cells slots MC MS L hC hR hB hH hl hz)
theorem ex_ishl {x y : Int32} (hM : mt_ok M = true) (hf : mt_in M pc (.ishl) 1)  (k : ex_W G d mc ms M (pc + 1) ls (.int (x <<< (y &&& 31)) :: st) g Q) : ex_W G d mc ms M pc ls (.int y :: .int x :: st) g Q := by
  intro p e R s m args9 below meth c H locs cells slots MC MS L hC hR hB hH hl hz
  exact lv_ishl hC.1 hC.2.1 (mt_dec hM hf)  (k p e R s m args9 below meth c H locs cells slots MC MS L hC hR hB hH hl hz)
theorem ex_ishr {x y : Int32} (hM : mt_ok M = true) (hf : mt_in M pc (.ishr) 1)  (k : ex_W G d mc ms M (pc + 1) ls (.int (x >>> (y &&& 31)) :: st) g Q) : ex_W G d mc ms M pc ls (.int y :: .int x :: st) g Q := by
  intro p e R s m args9 below meth c H locs cells slots MC MS L hC hR hB hH hl hz
  exact lv_ishr hC.1 hC.2.1 (mt_dec hM hf)  (k p e R s m args9 below meth c H locs cells slots MC MS L hC hR hB hH hl hz)
theorem ex_iushr {x y : Int32} (hM : mt_ok M = true) (hf : mt_in M pc (.iushr) 1)  (k : ex_W G d mc ms M (pc + 1) ls (.int (x.toUInt32 >>> (y.toUInt32 &&& Int32.toUInt32 31)).toInt32 :: st) g Q) : ex_W G d mc ms M pc ls (.int y :: .int x :: st) g Q := by
  intro p e R s m args9 below meth c H locs cells slots MC MS L hC hR hB hH hl hz
  exact lv_iushr hC.1 hC.2.1 (mt_dec hM hf) rfl (k p e R s m args9 below meth c H locs cells slots MC MS L hC hR hB hH hl hz)
theorem ex_idiv {x y : Int32} (hM : mt_ok M = true) (hf : mt_in M pc (.idiv) 1) (hne : ¬ y = 0) (k : ex_W G d mc ms M (pc + 1) ls (.int (x / y) :: st) g Q) : ex_W G d mc ms M pc ls (.int y :: .int x :: st) g Q := by
  intro p e R s m args9 below meth c H locs cells slots MC MS L hC hR hB hH hl hz
  exact lv_idiv hC.1 hC.2.1 (mt_dec hM hf) hne (k p e R s m args9 below meth c H locs cells slots MC MS L hC hR hB hH hl hz)
theorem ex_irem {x y : Int32} (hM : mt_ok M = true) (hf : mt_in M pc (.irem) 1) (hne : ¬ y = 0) (k : ex_W G d mc ms M (pc + 1) ls (.int (x - x / y * y) :: st) g Q) : ex_W G d mc ms M pc ls (.int y :: .int x :: st) g Q := by
  intro p e R s m args9 below meth c H locs cells slots MC MS L hC hR hB hH hl hz
  exact lv_irem hC.1 hC.2.1 (mt_dec hM hf) hne (k p e R s m args9 below meth c H locs cells slots MC MS L hC hR hB hH hl hz)
theorem ex_lor {x y : Int64} (hM : mt_ok M = true) (hf : mt_in M pc (.lor) 1)  (k : ex_W G d mc ms M (pc + 1) ls (.long (x ||| y) :: st) g Q) : ex_W G d mc ms M pc ls (.long y :: .long x :: st) g Q := by
  intro p e R s m args9 below meth c H locs cells slots MC MS L hC hR hB hH hl hz
  exact lv_lor hC.1 hC.2.1 (mt_dec hM hf)  (k p e R s m args9 below meth c H locs cells slots MC MS L hC hR hB hH hl hz)
theorem ex_i2l {x : Int32} (hM : mt_ok M = true) (hf : mt_in M pc (.i2l) 1)  (k : ex_W G d mc ms M (pc + 1) ls (.long x.toInt64 :: st) g Q) : ex_W G d mc ms M pc ls (.int x :: st) g Q := by
  intro p e R s m args9 below meth c H locs cells slots MC MS L hC hR hB hH hl hz
  exact lv_i2l hC.1 hC.2.1 (mt_dec hM hf) rfl (k p e R s m args9 below meth c H locs cells slots MC MS L hC hR hB hH hl hz)
theorem ex_l2i {x : Int64} (hM : mt_ok M = true) (hf : mt_in M pc (.l2i) 1)  (k : ex_W G d mc ms M (pc + 1) ls (.int x.toInt32 :: st) g Q) : ex_W G d mc ms M pc ls (.long x :: st) g Q := by
  intro p e R s m args9 below meth c H locs cells slots MC MS L hC hR hB hH hl hz
  exact lv_l2i hC.1 hC.2.1 (mt_dec hM hf) rfl (k p e R s m args9 below meth c H locs cells slots MC MS L hC hR hB hH hl hz)
theorem ex_lushr {x : Int64} {y : Int32} (hM : mt_ok M = true) (hf : mt_in M pc (.lushr) 1)  (k : ex_W G d mc ms M (pc + 1) ls (.long (x.toUInt64 >>> (y.toInt64.toUInt64 &&& Int64.toUInt64 63)).toInt64 :: st) g Q) : ex_W G d mc ms M pc ls (.int y :: .long x :: st) g Q := by
  intro p e R s m args9 below meth c H locs cells slots MC MS L hC hR hB hH hl hz
  exact lv_lushr hC.1 hC.2.1 (mt_dec hM hf) rfl (k p e R s m args9 below meth c H locs cells slots MC MS L hC hR hB hH hl hz)
theorem ex_lshl {x : Int64} {y : Int32} (hM : mt_ok M = true) (hf : mt_in M pc (.lshl) 1)  (k : ex_W G d mc ms M (pc + 1) ls (.long (x <<< (y.toInt64 &&& 63)) :: st) g Q) : ex_W G d mc ms M pc ls (.int y :: .long x :: st) g Q := by
  intro p e R s m args9 below meth c H locs cells slots MC MS L hC hR hB hH hl hz
  exact lv_lshl hC.1 hC.2.1 (mt_dec hM hf) rfl (k p e R s m args9 below meth c H locs cells slots MC MS L hC hR hB hH hl hz)
theorem ex_lcmp {x y : Int64} (hM : mt_ok M = true) (hf : mt_in M pc (.lcmp) 1)  (k : ex_W G d mc ms M (pc + 1) ls (.int (lg_cmp x y) :: st) g Q) : ex_W G d mc ms M pc ls (.long y :: .long x :: st) g Q := by
  intro p e R s m args9 below meth c H locs cells slots MC MS L hC hR hB hH hl hz
  exact W.lcmp hC.1 hC.2.1 (mt_dec hM hf)  (k p e R s m args9 below meth c H locs cells slots MC MS L hC hR hB hH hl hz)
theorem ex_dup {v : Value} (hM : mt_ok M = true) (hf : mt_in M pc (.dup) 1) (hv : v.category = 1) (k : ex_W G d mc ms M (pc + 1) ls (v :: v :: st) g Q) : ex_W G d mc ms M pc ls (v :: st) g Q := by
  intro p e R s m args9 below meth c H locs cells slots MC MS L hC hR hB hH hl hz
  exact lv_dup hC.1 hC.2.1 (mt_dec hM hf) hv (k p e R s m args9 below meth c H locs cells slots MC MS L hC hR hB hH hl hz)
theorem ex_pop {v : Value} (hM : mt_ok M = true) (hf : mt_in M pc (.pop) 1) (hv : v.category = 1) (k : ex_W G d mc ms M (pc + 1) ls (st) g Q) : ex_W G d mc ms M pc ls (v :: st) g Q := by
  intro p e R s m args9 below meth c H locs cells slots MC MS L hC hR hB hH hl hz
  exact lv_pop hC.1 hC.2.1 (mt_dec hM hf) hv (k p e R s m args9 below meth c H locs cells slots MC MS L hC hR hB hH hl hz)
theorem ex_dup2 {v w : Value} (hM : mt_ok M = true) (hf : mt_in M pc (.dup2) 1) (hv : v.category = 1) (hw : w.category = 1) (k : ex_W G d mc ms M (pc + 1) ls (v :: w :: v :: w :: st) g Q) : ex_W G d mc ms M pc ls (v :: w :: st) g Q := by
  intro p e R s m args9 below meth c H locs cells slots MC MS L hC hR hB hH hl hz
  exact lv_dup2_11 hC.1 hC.2.1 (mt_dec hM hf) hv hw (k p e R s m args9 below meth c H locs cells slots MC MS L hC hR hB hH hl hz)
theorem mt_kin {n : Nat} {v : Int32} (hv : (mt_i M).lookup n = some v) : Cond.constant (mt_y M).cls n v ∈ mt_need M := List.mem_append_right _ (List.mem_map.mpr ⟨(n, v), mt_mem hv, rfl⟩)
theorem ex_ldc {n : Nat} {v : Int32} (hM : mt_ok M = true) (hf : mt_in M pc (.ldc n) 2) (hv : (mt_i M).lookup n = some v) (k : ex_W G d mc ms M (pc + 2) ls (.int v :: st) g Q) : ex_W G d mc ms M pc ls st g Q := by
  intro p e R s m args9 below meth c H locs cells slots MC MS L hC hR hB hH hl hz
  have hw := (mt_ok_spec hM).2.1 _ (mt_kin hv)
  exact lv_ldc hC.1 hC.2.1 hC.2.2.2.1 (hC.2.2.2.2.1 _ hw.1 hw.2) (mt_dec hM hf) (k p e R s m args9 below meth c H locs cells slots MC MS L hC hR hB hH hl hz)
theorem ex_istore_n {n : Fin 4} {x : Int32} (hM : mt_ok M = true) (hf : mt_in M pc (.istore_n n) 1) (k : ex_W G d mc ms M (pc + 1) (lx_set ls (n : Nat) (.int x)) st g Q) : ex_W G d mc ms M pc ls (.int x :: st) g Q := by
  intro p e R s m args9 below meth c H locs cells slots MC MS L hC hR hB hH hl hz
  exact lv_istore_n hC.1 hC.2.1 (mt_dec hM hf) rfl hl (of_decide_eq_true (mt_iok hM hf)) rfl (fun L1 hl1 => k p e R s m args9 below meth c H locs cells slots MC MS L1 hC hR hB hH hl1 hz)
theorem ex_istore {n : Nat} {x : Int32} (hM : mt_ok M = true) (hf : mt_in M pc (.istore n) 2) (k : ex_W G d mc ms M (pc + 2) (lx_set ls n (.int x)) st g Q) : ex_W G d mc ms M pc ls (.int x :: st) g Q := by
  intro p e R s m args9 below meth c H locs cells slots MC MS L hC hR hB hH hl hz
  exact lv_istore hC.1 hC.2.1 (mt_dec hM hf)  hl (of_decide_eq_true (mt_iok hM hf)) rfl (fun L1 hl1 => k p e R s m args9 below meth c H locs cells slots MC MS L1 hC hR hB hH hl1 hz)
theorem ex_astore_n {n : Fin 4} {x : Nat} (hM : mt_ok M = true) (hf : mt_in M pc (.astore_n n) 1) (k : ex_W G d mc ms M (pc + 1) (lx_set ls (n : Nat) (.ref x)) st g Q) : ex_W G d mc ms M pc ls (.ref x :: st) g Q := by
  intro p e R s m args9 below meth c H locs cells slots MC MS L hC hR hB hH hl hz
  exact lv_astore_n hC.1 hC.2.1 (mt_dec hM hf) rfl hl (of_decide_eq_true (mt_iok hM hf)) rfl (fun L1 hl1 => k p e R s m args9 below meth c H locs cells slots MC MS L1 hC hR hB hH hl1 hz)
theorem ex_astore {n : Nat} {x : Nat} (hM : mt_ok M = true) (hf : mt_in M pc (.astore n) 2) (k : ex_W G d mc ms M (pc + 2) (lx_set ls n (.ref x)) st g Q) : ex_W G d mc ms M pc ls (.ref x :: st) g Q := by
  intro p e R s m args9 below meth c H locs cells slots MC MS L hC hR hB hH hl hz
  exact lv_astore hC.1 hC.2.1 (mt_dec hM hf)  hl (of_decide_eq_true (mt_iok hM hf)) rfl (fun L1 hl1 => k p e R s m args9 below meth c H locs cells slots MC MS L1 hC hR hB hH hl1 hz)
theorem ex_iinc {n : Nat} {j : Int} {x : Int32} (hM : mt_ok M = true) (hf : mt_in M pc (.iinc n j) 3) (hv : ls.lookup n = some (.int x)) (k : ex_W G d mc ms M (pc + 3) (lx_set ls n (.int (x + Int32.ofInt j))) st g Q) : ex_W G d mc ms M pc ls st g Q := by
  intro p e R s m args9 below meth c H locs cells slots MC MS L hC hR hB hH hl hz
  obtain ⟨k0, hk0⟩ := List.getElem?_of_mem (mt_mem hv)
  exact lv_iinc hC.1 hC.2.1 (mt_dec hM hf) hl hk0 rfl (of_decide_eq_true (mt_iok hM hf)) rfl (fun L1 hl1 => k p e R s m args9 below meth c H locs cells slots MC MS L1 hC hR hB hH hl1 hz)
theorem ex_goto {off : Int} {tgt : Nat} (hM : mt_ok M = true) (hf : mt_in M pc (.goto off) 3) (ht : (pc : Int) + off = (tgt : Int)) (k : ex_W G d mc ms M tgt ls st g Q) : ex_W G d mc ms M pc ls st g Q := by
  intro p e R s m args9 below meth c H locs cells slots MC MS L hC hR hB hH hl hz
  exact lv_goto hC.1 hC.2.1 (mt_dec hM hf) ht (k p e R s m args9 below meth c H locs cells slots MC MS L hC hR hB hH hl hz)
theorem ex_icmp_eq {off : Int} {tgt : Nat} {x y : Int32} (hM : mt_ok M = true) (hf : mt_in M pc (.if_icmp .eq off) 3) (ht : (pc : Int) + off = (tgt : Int)) (k1 : x = y → ex_W G d mc ms M tgt ls st g Q) (k2 : ¬ (x = y) → ex_W G d mc ms M (pc + 3) ls st g Q) : ex_W G d mc ms M pc ls (.int y :: .int x :: st) g Q := by
  intro p e R s m args9 below meth c H locs cells slots MC MS L hC hR hB hH hl hz
  exact lv_icmp_eq hC.1 hC.2.1 (mt_dec hM hf) ht (fun h => k1 h p e R s m args9 below meth c H locs cells slots MC MS L hC hR hB hH hl hz) (fun h => k2 h p e R s m args9 below meth c H locs cells slots MC MS L hC hR hB hH hl hz)
theorem ex_icmp_ne {off : Int} {tgt : Nat} {x y : Int32} (hM : mt_ok M = true) (hf : mt_in M pc (.if_icmp .ne off) 3) (ht : (pc : Int) + off = (tgt : Int)) (k1 : x ≠ y → ex_W G d mc ms M tgt ls st g Q) (k2 : x = y → ex_W G d mc ms M (pc + 3) ls st g Q) : ex_W G d mc ms M pc ls (.int y :: .int x :: st) g Q := by
  intro p e R s m args9 below meth c H locs cells slots MC MS L hC hR hB hH hl hz
  exact lv_icmp_ne hC.1 hC.2.1 (mt_dec hM hf) ht (fun h => k1 h p e R s m args9 below meth c H locs cells slots MC MS L hC hR hB hH hl hz) (fun h => k2 h p e R s m args9 below meth c H locs cells slots MC MS L hC hR hB hH hl hz)
theorem ex_icmp_lt {off : Int} {tgt : Nat} {x y : Int32} (hM : mt_ok M = true) (hf : mt_in M pc (.if_icmp .lt off) 3) (ht : (pc : Int) + off = (tgt : Int)) (k1 : x < y → ex_W G d mc ms M tgt ls st g Q) (k2 : ¬ (x < y) → ex_W G d mc ms M (pc + 3) ls st g Q) : ex_W G d mc ms M pc ls (.int y :: .int x :: st) g Q := by
  intro p e R s m args9 below meth c H locs cells slots MC MS L hC hR hB hH hl hz
  exact lv_icmp_lt hC.1 hC.2.1 (mt_dec hM hf) ht (fun h => k1 h p e R s m args9 below meth c H locs cells slots MC MS L hC hR hB hH hl hz) (fun h => k2 h p e R s m args9 below meth c H locs cells slots MC MS L hC hR hB hH hl hz)
theorem ex_icmp_ge {off : Int} {tgt : Nat} {x y : Int32} (hM : mt_ok M = true) (hf : mt_in M pc (.if_icmp .ge off) 3) (ht : (pc : Int) + off = (tgt : Int)) (k1 : y ≤ x → ex_W G d mc ms M tgt ls st g Q) (k2 : ¬ (y ≤ x) → ex_W G d mc ms M (pc + 3) ls st g Q) : ex_W G d mc ms M pc ls (.int y :: .int x :: st) g Q := by
  intro p e R s m args9 below meth c H locs cells slots MC MS L hC hR hB hH hl hz
  exact lv_icmp_ge hC.1 hC.2.1 (mt_dec hM hf) ht (fun h => k1 h p e R s m args9 below meth c H locs cells slots MC MS L hC hR hB hH hl hz) (fun h => k2 h p e R s m args9 below meth c H locs cells slots MC MS L hC hR hB hH hl hz)
theorem ex_icmp_gt {off : Int} {tgt : Nat} {x y : Int32} (hM : mt_ok M = true) (hf : mt_in M pc (.if_icmp .gt off) 3) (ht : (pc : Int) + off = (tgt : Int)) (k1 : y < x → ex_W G d mc ms M tgt ls st g Q) (k2 : ¬ (y < x) → ex_W G d mc ms M (pc + 3) ls st g Q) : ex_W G d mc ms M pc ls (.int y :: .int x :: st) g Q := by
  intro p e R s m args9 below meth c H locs cells slots MC MS L hC hR hB hH hl hz
  exact lv_icmp_gt hC.1 hC.2.1 (mt_dec hM hf) ht (fun h => k1 h p e R s m args9 below meth c H locs cells slots MC MS L hC hR hB hH hl hz) (fun h => k2 h p e R s m args9 below meth c H locs cells slots MC MS L hC hR hB hH hl hz)
theorem ex_icmp_le {off : Int} {tgt : Nat} {x y : Int32} (hM : mt_ok M = true) (hf : mt_in M pc (.if_icmp .le off) 3) (ht : (pc : Int) + off = (tgt : Int)) (k1 : x ≤ y → ex_W G d mc ms M tgt ls st g Q) (k2 : ¬ (x ≤ y) → ex_W G d mc ms M (pc + 3) ls st g Q) : ex_W G d mc ms M pc ls (.int y :: .int x :: st) g Q := by
  intro p e R s m args9 below meth c H locs cells slots MC MS L hC hR hB hH hl hz
  exact lv_icmp_le hC.1 hC.2.1 (mt_dec hM hf) ht (fun h => k1 h p e R s m args9 below meth c H locs cells slots MC MS L hC hR hB hH hl hz) (fun h => k2 h p e R s m args9 below meth c H locs cells slots MC MS L hC hR hB hH hl hz)
theorem ex_if_eq {off : Int} {tgt : Nat} {x : Int32} (hM : mt_ok M = true) (hf : mt_in M pc (.ifCond .eq off) 3) (ht : (pc : Int) + off = (tgt : Int)) (k1 : x = 0 → ex_W G d mc ms M tgt ls st g Q) (k2 : ¬ (x = 0) → ex_W G d mc ms M (pc + 3) ls st g Q) : ex_W G d mc ms M pc ls (.int x :: st) g Q := by
  intro p e R s m args9 below meth c H locs cells slots MC MS L hC hR hB hH hl hz
  exact lv_if_eq hC.1 hC.2.1 (mt_dec hM hf) ht (fun h => k1 h p e R s m args9 below meth c H locs cells slots MC MS L hC hR hB hH hl hz) (fun h => k2 h p e R s m args9 below meth c H locs cells slots MC MS L hC hR hB hH hl hz)
theorem ex_if_ne {off : Int} {tgt : Nat} {x : Int32} (hM : mt_ok M = true) (hf : mt_in M pc (.ifCond .ne off) 3) (ht : (pc : Int) + off = (tgt : Int)) (k1 : x ≠ 0 → ex_W G d mc ms M tgt ls st g Q) (k2 : x = 0 → ex_W G d mc ms M (pc + 3) ls st g Q) : ex_W G d mc ms M pc ls (.int x :: st) g Q := by
  intro p e R s m args9 below meth c H locs cells slots MC MS L hC hR hB hH hl hz
  exact lv_if_ne hC.1 hC.2.1 (mt_dec hM hf) ht (fun h => k1 h p e R s m args9 below meth c H locs cells slots MC MS L hC hR hB hH hl hz) (fun h => k2 h p e R s m args9 below meth c H locs cells slots MC MS L hC hR hB hH hl hz)
theorem ex_if_lt {off : Int} {tgt : Nat} {x : Int32} (hM : mt_ok M = true) (hf : mt_in M pc (.ifCond .lt off) 3) (ht : (pc : Int) + off = (tgt : Int)) (k1 : x < 0 → ex_W G d mc ms M tgt ls st g Q) (k2 : ¬ (x < 0) → ex_W G d mc ms M (pc + 3) ls st g Q) : ex_W G d mc ms M pc ls (.int x :: st) g Q := by
  intro p e R s m args9 below meth c H locs cells slots MC MS L hC hR hB hH hl hz
  exact lv_if_lt hC.1 hC.2.1 (mt_dec hM hf) ht (fun h => k1 h p e R s m args9 below meth c H locs cells slots MC MS L hC hR hB hH hl hz) (fun h => k2 h p e R s m args9 below meth c H locs cells slots MC MS L hC hR hB hH hl hz)
theorem ex_if_ge {off : Int} {tgt : Nat} {x : Int32} (hM : mt_ok M = true) (hf : mt_in M pc (.ifCond .ge off) 3) (ht : (pc : Int) + off = (tgt : Int)) (k1 : 0 ≤ x → ex_W G d mc ms M tgt ls st g Q) (k2 : ¬ (0 ≤ x) → ex_W G d mc ms M (pc + 3) ls st g Q) : ex_W G d mc ms M pc ls (.int x :: st) g Q := by
  intro p e R s m args9 below meth c H locs cells slots MC MS L hC hR hB hH hl hz
  exact lv_if_ge hC.1 hC.2.1 (mt_dec hM hf) ht (fun h => k1 h p e R s m args9 below meth c H locs cells slots MC MS L hC hR hB hH hl hz) (fun h => k2 h p e R s m args9 below meth c H locs cells slots MC MS L hC hR hB hH hl hz)
theorem ex_if_gt {off : Int} {tgt : Nat} {x : Int32} (hM : mt_ok M = true) (hf : mt_in M pc (.ifCond .gt off) 3) (ht : (pc : Int) + off = (tgt : Int)) (k1 : 0 < x → ex_W G d mc ms M tgt ls st g Q) (k2 : ¬ (0 < x) → ex_W G d mc ms M (pc + 3) ls st g Q) : ex_W G d mc ms M pc ls (.int x :: st) g Q := by
  intro p e R s m args9 below meth c H locs cells slots MC MS L hC hR hB hH hl hz
  exact lv_if_gt hC.1 hC.2.1 (mt_dec hM hf) ht (fun h => k1 h p e R s m args9 below meth c H locs cells slots MC MS L hC hR hB hH hl hz) (fun h => k2 h p e R s m args9 below meth c H locs cells slots MC MS L hC hR hB hH hl hz)
theorem ex_if_le {off : Int} {tgt : Nat} {x : Int32} (hM : mt_ok M = true) (hf : mt_in M pc (.ifCond .le off) 3) (ht : (pc : Int) + off = (tgt : Int)) (k1 : x ≤ 0 → ex_W G d mc ms M tgt ls st g Q) (k2 : ¬ (x ≤ 0) → ex_W G d mc ms M (pc + 3) ls st g Q) : ex_W G d mc ms M pc ls (.int x :: st) g Q := by
  intro p e R s m args9 below meth c H locs cells slots MC MS L hC hR hB hH hl hz
  exact lv_if_le hC.1 hC.2.1 (mt_dec hM hf) ht (fun h => k1 h p e R s m args9 below meth c H locs cells slots MC MS L hC hR hB hH hl hz) (fun h => k2 h p e R s m args9 below meth c H locs cells slots MC MS L hC hR hB hH hl hz)
theorem ex_table {dflt lo hi : Int} {offs : Array Int} {len : Nat} {x : Int32} (hM : mt_ok M = true) (hf : mt_in M pc (.tableswitch dflt lo hi offs) len)
    (k1 : ∀ (off : Int) (tgt : Nat), lo ≤ x.toInt → x.toInt ≤ hi → offs[(x.toInt - lo).toNat]? = some off → (pc : Int) + off = (tgt : Int) → ex_W G d mc ms M tgt ls st g Q)
    (ok : ∀ off ∈ offs.toList, 0 ≤ (pc : Int) + off) (hsz : (offs.size : Int) = hi - lo + 1) (k2 : ∀ tgt : Nat, x.toInt < lo ∨ hi < x.toInt → (pc : Int) + dflt = (tgt : Int) → ex_W G d mc ms M tgt ls st g Q) (ok2 : 0 ≤ (pc : Int) + dflt) : ex_W G d mc ms M pc ls (.int x :: st) g Q := by
  intro p e R s m args9 below meth c H locs cells slots MC MS L hC hR hB hH hl hz
  by_cases h : x.toInt < lo ∨ hi < x.toInt
  · exact lv_tableOut (tgt := ((pc : Int) + dflt).toNat) hC.1 hC.2.1 (mt_dec hM hf) h (by omega) (k2 _ h (by omega) p e R s m args9 below meth c H locs cells slots MC MS L hC hR hB hH hl hz)
  · have hlt : (x.toInt - lo).toNat < offs.size := by omega
    have ho : offs[(x.toInt - lo).toNat]? = some offs[(x.toInt - lo).toNat] := Array.getElem?_eq_getElem hlt
    have hp : 0 ≤ (pc : Int) + offs[(x.toInt - lo).toNat] := ok _ (by simp)
    exact lv_tableIn (tgt := ((pc : Int) + offs[(x.toInt - lo).toNat]).toNat) hC.1 hC.2.1 (mt_dec hM hf) (by omega) (by omega) ho (by omega) (k1 _ _ (by omega) (by omega) ho (by omega) p e R s m args9 below meth c H locs cells slots MC MS L hC hR hB hH hl hz)
theorem ex_lookup {dflt : Int} {ps : Array (Int × Int)} {len : Nat} {x : Int32} {tgt : Nat} (hM : mt_ok M = true) (hf : mt_in M pc (.lookupswitch dflt ps) len) (hp : (ps.toList.zip (ps.toList.drop 1)).all (fun (a, next) => a.1 < next.1) = true)
    (ht : (pc : Int) + Op.lookupswitch.offset ps.toList dflt x.toInt = (tgt : Int)) (k : ex_W G d mc ms M tgt ls st g Q) : ex_W G d mc ms M pc ls (.int x :: st) g Q := by
  intro p e R s m args9 below meth c H locs cells slots MC MS L hC hR hB hH hl hz
  exact lv_lookup hC.1 hC.2.1 (mt_dec hM hf) hp rfl ht (k p e R s m args9 below meth c H locs cells slots MC MS L hC hR hB hH hl hz)
end EX
