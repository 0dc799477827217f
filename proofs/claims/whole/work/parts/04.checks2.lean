/-! WHAT THE TABLES SAY IS SO: fields, calls, constants, classes -/
def am_isr : Option FieldType → Bool
  | some (.object _) => true
  | some (.array _) => true
  | _ => false
def am_fok (o i : Nat) (q : Nat × Nat × Nat × Nat) : Bool :=
  bif Nat.beq q.2.2.1 3 then Nat.beq q.1 14 && (bif Nat.beq q.2.1 0 then am_at q.2.2.2 (.fieldLink (am_cn o) i "java/lang/String" "value" "[B") else am_at q.2.2.2 (.fieldLink (am_cn o) i "java/lang/String" "coder" "B"))
  else ((Nat.blt q.1 12 && Nat.blt q.2.1 (am_nf q.1)) && (Nat.blt q.2.2.1 3 && am_at q.2.2.2 (.fieldLink (am_cn o) i (am_TX q.1 q.2.1).1 (am_TX q.1 q.2.1).2.1 (am_TX q.1 q.2.1).2.2.1))) &&
    (((decide ((am_TX q.1 q.2.1).1 = am_cn q.1) && decide ((am_TX q.1 q.2.1).2.2.2 = Nat.beq q.2.2.1 2)) && (bif Nat.beq q.2.2.1 0 then decide (am_tX q.1 q.2.1 = .int) else bif Nat.beq q.2.2.1 1 then decide (am_tX q.1 q.2.1 = .boolean) else am_isr (some (am_tX q.1 q.2.1)))) &&
      (List.range 78).all (fun c => !(Nat.beq (am_shp c).1 0 && Nat.beq (am_shp c).2 q.1) || decide (Nat.beq (am_rt c q.2.1).2 1000 = !Nat.beq q.2.2.1 2)))
theorem am_fok0 : ∀ o, o < 17 → ∀ i, i < 1100 → (match am_ft o i with | some q => am_fok o i q | none => true) = true := by decide +kernel
def am_np (M n : Nat) : Bool := decide ((parseMethodDescriptor (am_Y (am_meth M)).desc).map (fun d => d.parameters.length) = some n) && !Nat.beq (am_O (am_meth M)) 12
def am_cok (o i : Nat) (q : Nat × Nat × Nat × Nat × Nat × Nat × Nat) : Bool :=
  match q with
  | (0, M, n, p1, p2, p3, p4) => (am_np M n && am_at p1 (.methodLink (am_cn o) i (am_Y (am_meth M)))) && (am_at p2 (.instanceMethod (am_Y (am_meth M))) && (am_at p3 (.initialized (am_Y (am_meth M)).cls) && am_at p4 (.selects (am_Y (am_meth M)).cls (am_Y (am_meth M)) (am_Y (am_meth M)))))
  | (1, M, n, p1, p2, p3, _) => (am_np M n && am_at p1 (.methodLink (am_cn o) i (am_Y (am_meth M)))) && (am_at p2 (.static (am_Y (am_meth M))) && am_at p3 (.initialized (am_Y (am_meth M)).cls))
  | (2, M, n, _, p2, p3, _) => (am_np M n && decide ((o, i, M) ∈ am_ne)) && (am_at p2 (.static (am_Y (am_meth M))) && am_at p3 (.initialized (am_Y (am_meth M)).cls))
  | (3, M, n, p1, p2, p3, _) => (am_np M n && am_at p1 (.methodLink (am_cn o) i (am_Y (am_meth M)))) && (am_at p2 (.instanceMethod (am_Y (am_meth M))) && (am_at p3 (.initialized (am_Y (am_meth M)).cls) && am_N (am_meth M)))
  | (4, _, _, p1, p2, _, _) => am_at p1 (.methodLink (am_cn o) i Lib.objectInit) && am_at p2 (.instanceMethod Lib.objectInit)
  | (5, _, _, p1, p2, p3, _) => am_at p1 (.methodLink (am_cn o) i Lib.Math.min.name) && (am_at p2 (.static Lib.Math.min.name) && am_at p3 (.initialized "java/lang/Math"))
  | (6, _, _, p1, p2, p3, _) => am_at p1 (.methodLink (am_cn o) i Lib.Math.max.name) && (am_at p2 (.static Lib.Math.max.name) && am_at p3 (.initialized "java/lang/Math"))
  | _ => false
theorem am_cok_0 : ∀ i, i < 1100 → (match am_ca 0 i with | some q => am_cok 0 i q | none => true) = true := by decide +kernel
theorem am_cok_1 : ∀ i, i < 1100 → (match am_ca 1 i with | some q => am_cok 1 i q | none => true) = true := by decide +kernel
theorem am_cok_2 : ∀ i, i < 1100 → (match am_ca 2 i with | some q => am_cok 2 i q | none => true) = true := by decide +kernel
theorem am_cok_3 : ∀ i, i < 1100 → (match am_ca 3 i with | some q => am_cok 3 i q | none => true) = true := by decide +kernel
theorem am_cok_4 : ∀ i, i < 1100 → (match am_ca 4 i with | some q => am_cok 4 i q | none => true) = true := by decide +kernel
theorem am_cok_5 : ∀ i, i < 1100 → (match am_ca 5 i with | some q => am_cok 5 i q | none => true) = true := by decide +kernel
theorem am_cok_6 : ∀ i, i < 1100 → (match am_ca 6 i with | some q => am_cok 6 i q | none => true) = true := by decide +kernel
theorem am_cok_7 : ∀ i, i < 1100 → (match am_ca 7 i with | some q => am_cok 7 i q | none => true) = true := by decide +kernel
theorem am_cok_8 : ∀ i, i < 1100 → (match am_ca 8 i with | some q => am_cok 8 i q | none => true) = true := by decide +kernel
theorem am_cok_9 : ∀ i, i < 1100 → (match am_ca 9 i with | some q => am_cok 9 i q | none => true) = true := by decide +kernel
theorem am_cok_10 : ∀ i, i < 1100 → (match am_ca 10 i with | some q => am_cok 10 i q | none => true) = true := by decide +kernel
theorem am_cok_11 : ∀ i, i < 1100 → (match am_ca 11 i with | some q => am_cok 11 i q | none => true) = true := by decide +kernel
theorem am_cok_12 : ∀ i, i < 1100 → (match am_ca 12 i with | some q => am_cok 12 i q | none => true) = true := by decide +kernel
theorem am_cok_13 : ∀ i, i < 1100 → (match am_ca 13 i with | some q => am_cok 13 i q | none => true) = true := by decide +kernel
theorem am_cok_14 : ∀ i, i < 1100 → (match am_ca 14 i with | some q => am_cok 14 i q | none => true) = true := by decide +kernel
theorem am_cok_15 : ∀ i, i < 1100 → (match am_ca 15 i with | some q => am_cok 15 i q | none => true) = true := by decide +kernel
theorem am_cok_16 : ∀ i, i < 1100 → (match am_ca 16 i with | some q => am_cok 16 i q | none => true) = true := by decide +kernel
theorem am_cok0 : ∀ o, o < 17 → ∀ i, i < 1100 → (match am_ca o i with | some q => am_cok o i q | none => true) = true := fun o h => match o, h with
  | 0, _ => am_cok_0
  | 1, _ => am_cok_1
  | 2, _ => am_cok_2
  | 3, _ => am_cok_3
  | 4, _ => am_cok_4
  | 5, _ => am_cok_5
  | 6, _ => am_cok_6
  | 7, _ => am_cok_7
  | 8, _ => am_cok_8
  | 9, _ => am_cok_9
  | 10, _ => am_cok_10
  | 11, _ => am_cok_11
  | 12, _ => am_cok_12
  | 13, _ => am_cok_13
  | 14, _ => am_cok_14
  | 15, _ => am_cok_15
  | 16, _ => am_cok_16
  | n + 17, h => absurd h (by omega)
theorem am_co4 : Jvm.Cond.code Lib.objectInit ⟨#[0xb1]⟩ 1 none ∈ lw_tbl := am_in1 (List.mem_of_getElem? (i := 25) rfl)
theorem am_co5 : Jvm.Cond.code Lib.Math.min.name Lib.Math.min.code 2 (some .int) ∈ lw_tbl := am_in2 (List.mem_of_getElem? (i := 60) rfl)
theorem am_co6 : Jvm.Cond.code Lib.Math.max.name Lib.Math.max.code 2 (some .int) ∈ lw_tbl := am_in2 (List.mem_of_getElem? (i := 68) rfl)
def am_nok (o i : Nat) (q : Nat × Nat × Nat × Nat) : Bool := (Nat.blt q.1 12 && am_at q.2.1 (.classLink (am_cn o) i (am_cn q.1))) && (am_at q.2.2.1 (.instantiable (am_cn q.1) (am_nf q.1)) && am_at q.2.2.2 (.initialized (am_cn q.1)))
theorem am_nok0 : ∀ o, o < 17 → ∀ i, i < 1100 → (match am_nw o i with | some q => am_nok o i q | none => true) = true := by decide +kernel
theorem am_lok0 : ∀ o, o < 17 → ∀ i, i < 1100 → (match am_lc o i with | some q => am_at q.2 (.constantLong (am_cn o) i q.1) | none => true) = true := by decide +kernel
theorem am_rng {α : Type} {o i : Nat} {x : Option α} {q : α} (h : (bif Nat.blt o 17 && Nat.blt i 1100 then x else none) = some q) : o < 17 ∧ i < 1100 := by
  cases hb : (Nat.blt o 17 && Nat.blt i 1100) with
  | false => rw [hb] at h; cases h
  | true => rw [Bool.and_eq_true] at hb; exact ⟨Nat.le_of_ble_eq_true hb.1, Nat.le_of_ble_eq_true hb.2⟩
theorem am_ft_ok {o i : Nat} {q : Nat × Nat × Nat × Nat} (h : am_ft o i = some q) : am_fok o i q = true := by
  obtain ⟨h1, h2⟩ := am_rng (by unfold am_ft at h; exact h)
  have h3 := am_fok0 o h1 i h2
  rw [h] at h3
  exact h3
theorem am_ca_ok {o i : Nat} {q : Nat × Nat × Nat × Nat × Nat × Nat × Nat} (h : am_ca o i = some q) : am_cok o i q = true := by
  obtain ⟨h1, h2⟩ := am_rng (by unfold am_ca at h; exact h)
  have h3 := am_cok0 o h1 i h2
  rw [h] at h3
  exact h3
theorem am_nw_ok {o i : Nat} {q : Nat × Nat × Nat × Nat} (h : am_nw o i = some q) : am_nok o i q = true := by
  obtain ⟨h1, h2⟩ := am_rng (by unfold am_nw at h; exact h)
  have h3 := am_nok0 o h1 i h2
  rw [h] at h3
  exact h3
theorem am_lc_ok {o i : Nat} {q : Int64 × Nat} (h : am_lc o i = some q) : am_at q.2 (.constantLong (am_cn o) i q.1) = true := by
  obtain ⟨h1, h2⟩ := am_rng (by unfold am_lc at h; exact h)
  have h3 := am_lok0 o h1 i h2
  rw [h] at h3
  exact h3
/-- what is true of a class of the worlds -/
def am_clp (ci : Nat) : Prop := vwCl[ci]? = some (am_cn ci, am_TX ci, am_nf ci) ∧ (∀ w ∈ u_ws (am_cn ci) (am_TX ci) (am_nf ci), w ∈ am_W) ∧ (∀ k, k < am_nf ci → parseFieldDescriptor (am_TX ci k).2.2.1 = some (am_tX ci k)) ∧ (∀ a, a < am_nf ci → ∀ b, b < am_nf ci → a ≠ b → (am_TX ci a).2.1 ≠ (am_TX ci b).2.1)
theorem am_Wsub {ws : List Jvm.Cond} (h : ws.all (fun w => decide (w ∈ lw_tbl) && goodWord w) = true) : ∀ w ∈ ws, w ∈ am_W := by
  intro w hw
  have h1 := List.all_eq_true.mp h w hw
  simp only [Bool.and_eq_true, decide_eq_true_eq] at h1
  exact am_Win h1.1 h1.2
set_option maxRecDepth 20000 in
theorem am_cl0 : am_clp 0 := ⟨rfl, am_Wsub (by decide +kernel), tyX0_ok, nmX0⟩
set_option maxRecDepth 20000 in
theorem am_cl1 : am_clp 1 := ⟨rfl, am_Wsub (by decide +kernel), tyX1_ok, nmX1⟩
set_option maxRecDepth 20000 in
theorem am_cl2 : am_clp 2 := ⟨rfl, am_Wsub (by decide +kernel), tyX2_ok, nmX2⟩
set_option maxRecDepth 20000 in
theorem am_cl3 : am_clp 3 := ⟨rfl, am_Wsub (by decide +kernel), tyX3_ok, nmX3⟩
set_option maxRecDepth 20000 in
theorem am_cl4 : am_clp 4 := ⟨rfl, am_Wsub (by decide +kernel), tyX4_ok, nmX4⟩
set_option maxRecDepth 20000 in
theorem am_cl5 : am_clp 5 := ⟨rfl, am_Wsub (by decide +kernel), tyX5_ok, nmX5⟩
set_option maxRecDepth 20000 in
theorem am_cl6 : am_clp 6 := ⟨rfl, am_Wsub (by decide +kernel), tyX6_ok, nmX6⟩
set_option maxRecDepth 20000 in
theorem am_cl7 : am_clp 7 := ⟨rfl, am_Wsub (by decide +kernel), tyX7_ok, nmX7⟩
set_option maxRecDepth 20000 in
theorem am_cl8 : am_clp 8 := ⟨rfl, am_Wsub (by decide +kernel), tyX8_ok, nmX8⟩
set_option maxRecDepth 20000 in
theorem am_cl9 : am_clp 9 := ⟨rfl, am_Wsub (by decide +kernel), tyX9_ok, nmX9⟩
set_option maxRecDepth 20000 in
theorem am_cl10 : am_clp 10 := ⟨rfl, am_Wsub (by decide +kernel), tyX10_ok, nmX10⟩
set_option maxRecDepth 20000 in
theorem am_cl11 : am_clp 11 := ⟨rfl, am_Wsub (by decide +kernel), tyX11_ok, nmX11⟩
theorem am_cls : ∀ ci, ci < 12 → am_clp ci := fun ci h => match ci, h with
  | 0, _ => am_cl0
  | 1, _ => am_cl1
  | 2, _ => am_cl2
  | 3, _ => am_cl3
  | 4, _ => am_cl4
  | 5, _ => am_cl5
  | 6, _ => am_cl6
  | 7, _ => am_cl7
  | 8, _ => am_cl8
  | 9, _ => am_cl9
  | 10, _ => am_cl10
  | 11, _ => am_cl11
  | n + 12, h => absurd h (by omega)
theorem am_ac {ty : FieldType} (h : ty = .int ∨ ty = .char ∨ ty = .long) : Jvm.Cond.arrayClass ty ∈ am_W := by 
  rcases h with rfl | rfl | rfl
  · exact am_Win (am_at_in (i := 1054) (by decide +kernel)) rfl
  · exact am_Win (am_at_in (i := 1215) (by decide +kernel)) rfl
  · exact am_Win (am_at_in (i := 2002) (by decide +kernel)) rfl
theorem am_rt0 : ∀ c, c < 78 → ∀ k, k < 40 → (decide ((am_rt c k).2 = 1000) || (decide (am_ri[(am_rt c k).2]? = some (c, k)) && Nat.blt (am_rt c k).1 1000)) = true := by decide +kernel
theorem am_rt_or (c k : Nat) : (am_rt c k).2 = 1000 ∨ (am_ri[(am_rt c k).2]? = some (c, k) ∧ (am_rt c k).1 < 1000) := by
  cases hb : (Nat.blt c 78 && Nat.blt k 40) with
  | false => left; unfold am_rt; rw [hb]; rfl
  | true =>
    rw [Bool.and_eq_true] at hb
    have h := am_rt0 c (Nat.le_of_ble_eq_true hb.1) k (Nat.le_of_ble_eq_true hb.2)
    rw [Bool.or_eq_true, Bool.and_eq_true] at h
    rcases h with h | h
    · exact Or.inl (of_decide_eq_true h)
    · exact Or.inr ⟨of_decide_eq_true h.1, Nat.le_of_ble_eq_true h.2⟩
theorem am_dk0 : ∀ c, c < 78 → (!Nat.beq (am_shp c).1 0 || (Nat.blt (am_shp c).2 12 && (Nat.ble (am_nf (am_shp c).2) 40 && (List.range (am_nf (am_shp c).2)).all (fun j => decide (defaultValue (am_tX (am_shp c).2 j) = bif Nat.beq (am_rt c j).2 1000 then Value.int 0 else Value.null))))) = true := by decide +kernel
theorem am_shp_lt {c : Nat} (h : (am_shp c).1 ≠ 9) : c < 78 := by
  cases hb : Nat.blt c 78 with
  | true => exact Nat.le_of_ble_eq_true hb
  | false => exact absurd (by unfold am_shp; rw [hb]; rfl) h
