/-! ===== fields, arrays, answers ===== -/
theorem fx_nar {ty : FieldType} {x : Nat} (h : (∃ n, ty = .object n) ∨ ∃ t, ty = .array t) : narrow ty (.ref x) = .ref x ∧ fits ty (.ref x) = true := by
  rcases h with ⟨n, rfl⟩ | ⟨t, rfl⟩ <;> exact ⟨rfl, rfl⟩
/-- what the tables of the classes say, of all of them at once -/
theorem cx_facts : ∀ ci, ci < 13 → cx_cl[ci]? = some (cx_R ci, cx_T ci, cx_N ci) ∧ (∀ j, j < cx_N ci → parseFieldDescriptor (cx_T ci j).2.2.1 = some (cx_ty ci j)) ∧ (∀ a, a < cx_N ci → ∀ b, b < cx_N ci → a ≠ b → (cx_T ci a).2.1 ≠ (cx_T ci b).2.1) := by
  intro ci h
  match ci, h with
  | 0, _ => exact ⟨rfl, tyX0_ok, nmX0⟩
  | 1, _ => exact ⟨rfl, tyX1_ok, nmX1⟩
  | 2, _ => exact ⟨rfl, tyX2_ok, nmX2⟩
  | 3, _ => exact ⟨rfl, tyX3_ok, nmX3⟩
  | 4, _ => exact ⟨rfl, tyX4_ok, nmX4⟩
  | 5, _ => exact ⟨rfl, tyX5_ok, nmX5⟩
  | 6, _ => exact ⟨rfl, tyX6_ok, nmX6⟩
  | 7, _ => exact ⟨rfl, tyX1_ok, nmX1⟩
  | 8, _ => exact ⟨rfl, tyX8_ok, nmX8⟩
  | 9, _ => exact ⟨rfl, tyX9_ok, nmX9⟩
  | 10, _ => exact ⟨rfl, tyX10_ok, nmX10⟩
  | 11, _ => exact ⟨rfl, tyX11_ok, nmX11⟩
  | 12, _ => exact ⟨rfl, tyX12_ok, nmX12⟩
  | k + 13, h => omega
/-- which fields are references, and the types -/
def fx_tyOk (ty : FieldType) (r : Bool) : Bool := match ty with
  | .int => !r
  | .object _ => r
  | .array _ => r
  | _ => false
theorem fx_all : (List.range 13).all (fun ci => (List.range (cx_N ci)).all (fun j => fx_tyOk (cx_ty ci j) (fx_R ci j))) = true := by decide +kernel
theorem fx_at {ci j : Nat} (h : ci < 13) (hj : j < cx_N ci) : fx_tyOk (cx_ty ci j) (fx_R ci j) = true :=
  List.all_eq_true.mp (List.all_eq_true.mp fx_all ci (List.mem_range.mpr h)) j (List.mem_range.mpr hj)
theorem fx_ref {ci j : Nat} (h : ci < 13) (hj : j < cx_N ci) (hr : fx_R ci j = true) : (∃ n, cx_ty ci j = .object n) ∨ ∃ t, cx_ty ci j = .array t := by
  have h1 := fx_at h hj
  rw [hr] at h1
  cases e : cx_ty ci j <;> rw [e] at h1 <;> simp [fx_tyOk] at h1 ⊢
theorem fx_int {ci j : Nat} (h : ci < 13) (hj : j < cx_N ci) (hr : fx_R ci j = false) : cx_ty ci j = .int := by
  have h1 := fx_at h hj
  rw [hr] at h1
  cases e : cx_ty ci j <;> rw [e] at h1 <;> simp [fx_tyOk] at h1 ⊢
/-- all the field words of all classes stand in the tables, and are good -/
def cx_fw (ci : Nat) : List Cond := u_ws (cx_R ci) (cx_T ci) (cx_N ci)
