/-! WHAT THE TABLES SAY IS SO, by program and decision -/
theorem am_cond {α : Type} {P : α → Prop} {b : Bool} {x y : α} (hx : P x) (hy : P y) : P (cond b x y) := by cases b <;> assumption
def am_W : List Jvm.Cond := lw_tbl.filter goodWord
theorem am_Win {w : Jvm.Cond} (h : w ∈ lw_tbl) (g : goodWord w = true) : w ∈ am_W := List.mem_filter.mpr ⟨h, g⟩
def am_sub : Nat → List Jvm.Cond := fun x => bif Nat.blt x 3 then (bif Nat.blt x 1 then k2_sels lw_privs else (bif Nat.blt x 2 then tables_1_1 else tables_1_2)) else (bif Nat.blt x 5 then (bif Nat.blt x 4 then tables_1_3 else tables_1_4) else (bif Nat.blt x 6 then tables_1_5 else (bif Nat.blt x 7 then tables_1_6 else [])))
def am_at (i : Nat) (w : Jvm.Cond) : Bool := decide ((am_sub (i / 1000))[i % 1000]? = some w)
def am_len : Instr → Nat
  | .aload _ => 2
  | .astore _ => 2
  | .iload _ => 2
  | .istore _ => 2
  | .lload _ => 2
  | .lstore _ => 2
  | .ldc _ => 2
  | .newarray _ => 2
  | .bipush _ => 2
  | .sipush _ => 3
  | .ldc2_w _ => 3
  | .getfield _ => 3
  | .putfield _ => 3
  | .getstatic _ => 3
  | .iinc _ _ => 3
  | .goto _ => 3
  | .ifCond _ _ => 3
  | .if_icmp _ _ => 3
  | .new _ => 3
  | .invokevirtual _ => 3
  | .invokestatic _ => 3
  | .invokespecial _ => 3
  | _ => 1
/-- an entry of a method's table is what its bytes say -/
def am_eok (o : Nat) (cc : ByteArray) (pc : Nat) (e : am_E) : Bool :=
  match e.1 with
  | .tableswitch _ _ _ _ => decide (decode cc pc = .ok (e.1, e.2.1))
  | i => decide (decode cc pc = .ok (i, am_len i)) && (match i with
    | .goto f => decide ((pc : Int) + f = (e.2.1 : Int))
    | .ifCond _ f => decide ((pc : Int) + f = (e.2.1 : Int))
    | .if_icmp _ f => decide ((pc : Int) + f = (e.2.1 : Int))
    | .iconst n => decide (n = e.2.2)
    | .bipush n => decide ((Int8.ofInt n).toInt32 = Int32.ofInt e.2.2)
    | .sipush n => decide ((Int16.ofInt n).toInt32 = Int32.ofInt e.2.2)
    | .iinc _ n => decide (n = e.2.2)
    | .ldc x => bif Nat.beq e.2.1 0 then (match am_ic o x with | some q => am_at q (.constant (am_cn o) x (Int32.ofInt e.2.2)) | none => true)
        else (match am_st[e.2.1 - 1000]? with | some w => decide (w.1 = am_cn o) && decide (w.2.1 = x) | none => false)
    | _ => true)
def am_chk (o : Nat) (cc : ByteArray) (pc : Nat) (e : Option am_E) : Bool := match e with | some e => am_eok o cc pc e | none => true
theorem am_chk_of {o : Nat} {cc : ByteArray} {B : Nat} {I : Nat → Option am_E} (h : ∀ pc, pc < B → am_chk o cc pc (I pc) = true) (h2 : ∀ pc, Nat.blt pc B = false → I pc = none) : ∀ pc e, I pc = some e → am_eok o cc pc e = true := by
  intro pc e he
  by_cases hb : pc < B
  · have h1 := h pc hb
    rw [he] at h1
    exact h1
  · have h1 := h2 pc (Bool.eq_false_iff.mpr (fun e => hb (Nat.le_of_ble_eq_true e)))
    rw [he] at h1
    cases h1
def am_sok (md : am_MD) : Bool := (plainName (am_Y md).cls && decide ((am_Y md).cls = am_cn (am_O md))) && ((!decide ((am_Y md).cls = "java/lang/invoke/MethodHandle") && !decide ((am_Y md).cls = "java/lang/invoke/VarHandle")) && (Nat.ble (am_L md) 41 && decide (am_N md = decide ((am_Y md).name = "<init>")))) && (!am_N md || decide (am_R md = none))
/-- what is true of every method of the table -/
def am_mok (md : am_MD) : Prop := (∀ pc e, am_T md pc = some e → am_eok (am_O md) (am_B md) pc e = true) ∧ am_sok md = true ∧ (am_O md ≠ 12 → Jvm.Cond.code (am_Y md) (am_B md) (am_L md) (am_R md) ∈ lw_tbl)
theorem am_in1 {w : Jvm.Cond} (h : w ∈ tables_1_1) : w ∈ lw_tbl := List.mem_append_right _ (List.mem_append_left _ h)
theorem am_in2 {w : Jvm.Cond} (h : w ∈ tables_1_2) : w ∈ lw_tbl := List.mem_append_right _ (List.mem_append_right _ (List.mem_append_left _ h))
theorem am_in3 {w : Jvm.Cond} (h : w ∈ tables_1_3) : w ∈ lw_tbl := List.mem_append_right _ (List.mem_append_right _ (List.mem_append_right _ (List.mem_append_left _ h)))
theorem am_in4 {w : Jvm.Cond} (h : w ∈ tables_1_4) : w ∈ lw_tbl := List.mem_append_right _ (List.mem_append_right _ (List.mem_append_right _ (List.mem_append_right _ (List.mem_append_left _ h))))
theorem am_in5 {w : Jvm.Cond} (h : w ∈ tables_1_5) : w ∈ lw_tbl := List.mem_append_right _ (List.mem_append_right _ (List.mem_append_right _ (List.mem_append_right _ (List.mem_append_right _ (List.mem_append_left _ h)))))
theorem am_in6 {w : Jvm.Cond} (h : w ∈ tables_1_6) : w ∈ lw_tbl := List.mem_append_right _ (List.mem_append_right _ (List.mem_append_right _ (List.mem_append_right _ (List.mem_append_right _ (List.mem_append_right _ (h))))))
theorem am_at_in {i : Nat} {w : Jvm.Cond} (h : am_at i w = true) : w ∈ lw_tbl := by
  have h1 : w ∈ am_sub (i / 1000) := List.mem_of_getElem? (of_decide_eq_true h)
  have key : ∀ k : Nat, w ∈ am_sub k → w ∈ lw_tbl := fun k h =>
    match k, h with
    | 0, h => List.mem_append_left _ h
    | 1, h => am_in1 h
    | 2, h => am_in2 h
    | 3, h => am_in3 h
    | 4, h => am_in4 h
    | 5, h => am_in5 h
    | 6, h => am_in6 h
    | k + 7, h => by
      have e : am_sub (k + 7) = [] := by
        unfold am_sub
        have z : ∀ j : Nat, j ≤ 7 → Nat.blt (k + 7) j = false := fun j hj => Bool.eq_false_iff.mpr (fun e => by have := Nat.le_of_ble_eq_true e; omega)
        rw [z 3 (by omega), z 5 (by omega), z 6 (by omega), z 7 (by omega)]; rfl
      rw [e] at h; cases h
  exact key _ h1
set_option maxRecDepth 20000 in
theorem am_k_Bounded_init : ∀ pc, pc < 45 → am_chk 0 prog_2_method_1_code pc (am_i_Bounded_init pc) = true := by decide +kernel
set_option maxRecDepth 20000 in
theorem am_q_Bounded_init : am_mok am_m_Bounded_init := ⟨am_chk_of am_k_Bounded_init (fun pc h => by show am_i_Bounded_init pc = none; unfold am_i_Bounded_init; rw [h]; rfl), by decide +kernel, fun _ => am_in1 (List.mem_of_getElem? (i := 127) rfl)⟩
set_option maxRecDepth 20000 in
theorem am_k_Bounded_refresh : ∀ pc, pc < 188 → am_chk 0 prog_2_method_2_code pc (am_i_Bounded_refresh pc) = true := by decide +kernel
set_option maxRecDepth 20000 in
theorem am_q_Bounded_refresh : am_mok am_m_Bounded_refresh := ⟨am_chk_of am_k_Bounded_refresh (fun pc h => by show am_i_Bounded_refresh pc = none; unfold am_i_Bounded_refresh; rw [h]; rfl), by decide +kernel, fun _ => am_in3 (List.mem_of_getElem? (i := 176) rfl)⟩
set_option maxRecDepth 20000 in
theorem am_k_Bounded_reckonAfter : ∀ pc, pc < 114 → am_chk 0 prog_2_method_3_code pc (am_i_Bounded_reckonAfter pc) = true := by decide +kernel
set_option maxRecDepth 20000 in
theorem am_q_Bounded_reckonAfter : am_mok am_m_Bounded_reckonAfter := ⟨am_chk_of am_k_Bounded_reckonAfter (fun pc h => by show am_i_Bounded_reckonAfter pc = none; unfold am_i_Bounded_reckonAfter; rw [h]; rfl), by decide +kernel, fun _ => am_in3 (List.mem_of_getElem? (i := 185) rfl)⟩
set_option maxRecDepth 20000 in
theorem am_k_Bounded_leastFrom : ∀ pc, pc < 101 → am_chk 0 prog_2_method_5_code pc (am_i_Bounded_leastFrom pc) = true := by decide +kernel
set_option maxRecDepth 20000 in
theorem am_q_Bounded_leastFrom : am_mok am_m_Bounded_leastFrom := ⟨am_chk_of am_k_Bounded_leastFrom (fun pc h => by show am_i_Bounded_leastFrom pc = none; unfold am_i_Bounded_leastFrom; rw [h]; rfl), by decide +kernel, fun _ => am_in3 (List.mem_of_getElem? (i := 196) rfl)⟩
set_option maxRecDepth 20000 in
theorem am_k_Bounded_mostBehind : ∀ pc, pc < 16 → am_chk 0 prog_2_method_4_code pc (am_i_Bounded_mostBehind pc) = true := by decide +kernel
set_option maxRecDepth 20000 in
theorem am_q_Bounded_mostBehind : am_mok am_m_Bounded_mostBehind := ⟨am_chk_of am_k_Bounded_mostBehind (fun pc h => by show am_i_Bounded_mostBehind pc = none; unfold am_i_Bounded_mostBehind; rw [h]; rfl), by decide +kernel, fun _ => am_in3 (List.mem_of_getElem? (i := 201) rfl)⟩
set_option maxRecDepth 20000 in
theorem am_k_Bounded_cost : ∀ pc, pc < 9 → am_chk 0 prog_2_method_9_code pc (am_i_Bounded_cost pc) = true := by decide +kernel
set_option maxRecDepth 20000 in
theorem am_q_Bounded_cost : am_mok am_m_Bounded_cost := ⟨am_chk_of am_k_Bounded_cost (fun pc h => by show am_i_Bounded_cost pc = none; unfold am_i_Bounded_cost; rw [h]; rfl), by decide +kernel, fun _ => am_in3 (List.mem_of_getElem? (i := 207) rfl)⟩
set_option maxRecDepth 20000 in
theorem am_k_Bounded_takeMade : ∀ pc, pc < 49 → am_chk 0 prog_2_method_6_code pc (am_i_Bounded_takeMade pc) = true := by decide +kernel
set_option maxRecDepth 20000 in
theorem am_q_Bounded_takeMade : am_mok am_m_Bounded_takeMade := ⟨am_chk_of am_k_Bounded_takeMade (fun pc h => by show am_i_Bounded_takeMade pc = none; unfold am_i_Bounded_takeMade; rw [h]; rfl), by decide +kernel, fun _ => am_in3 (List.mem_of_getElem? (i := 211) rfl)⟩
set_option maxRecDepth 20000 in
theorem am_k_Bounded_firstOfLeast : ∀ pc, pc < 104 → am_chk 0 prog_2_method_7_code pc (am_i_Bounded_firstOfLeast pc) = true := by decide +kernel
set_option maxRecDepth 20000 in
theorem am_q_Bounded_firstOfLeast : am_mok am_m_Bounded_firstOfLeast := ⟨am_chk_of am_k_Bounded_firstOfLeast (fun pc h => by show am_i_Bounded_firstOfLeast pc = none; unfold am_i_Bounded_firstOfLeast; rw [h]; rfl), by decide +kernel, fun _ => am_in3 (List.mem_of_getElem? (i := 215) rfl)⟩
set_option maxRecDepth 20000 in
theorem am_k_Bounded_state : ∀ pc, pc < 5 → am_chk 0 prog_2_method_8_code pc (am_i_Bounded_state pc) = true := by decide +kernel
set_option maxRecDepth 20000 in
theorem am_q_Bounded_state : am_mok am_m_Bounded_state := ⟨am_chk_of am_k_Bounded_state (fun pc h => by show am_i_Bounded_state pc = none; unfold am_i_Bounded_state; rw [h]; rfl), by decide +kernel, fun _ => am_in3 (List.mem_of_getElem? (i := 219) rfl)⟩
set_option maxRecDepth 20000 in
theorem am_k_Bounded_made : ∀ pc, pc < 9 → am_chk 0 prog_2_method_10_code pc (am_i_Bounded_made pc) = true := by decide +kernel
set_option maxRecDepth 20000 in
theorem am_q_Bounded_made : am_mok am_m_Bounded_made := ⟨am_chk_of am_k_Bounded_made (fun pc h => by show am_i_Bounded_made pc = none; unfold am_i_Bounded_made; rw [h]; rfl), by decide +kernel, fun _ => am_in3 (List.mem_of_getElem? (i := 224) rfl)⟩
set_option maxRecDepth 20000 in
theorem am_k_ByHand_init : ∀ pc, pc < 13 → am_chk 1 prog_3_method_1_code pc (am_i_ByHand_init pc) = true := by decide +kernel
set_option maxRecDepth 20000 in
theorem am_q_ByHand_init : am_mok am_m_ByHand_init := ⟨am_chk_of am_k_ByHand_init (fun pc h => by show am_i_ByHand_init pc = none; unfold am_i_ByHand_init; rw [h]; rfl), by decide +kernel, fun _ => am_in1 (List.mem_of_getElem? (i := 168) rfl)⟩
set_option maxRecDepth 20000 in
theorem am_k_ByHand_keepFirst : ∀ pc, pc < 29 → am_chk 1 prog_3_method_4_code pc (am_i_ByHand_keepFirst pc) = true := by decide +kernel
set_option maxRecDepth 20000 in
theorem am_q_ByHand_keepFirst : am_mok am_m_ByHand_keepFirst := ⟨am_chk_of am_k_ByHand_keepFirst (fun pc h => by show am_i_ByHand_keepFirst pc = none; unfold am_i_ByHand_keepFirst; rw [h]; rfl), by decide +kernel, fun _ => am_in2 (List.mem_of_getElem? (i := 65) rfl)⟩
set_option maxRecDepth 20000 in
theorem am_k_ByHand_made : ∀ pc, pc < 9 → am_chk 1 prog_3_method_2_code pc (am_i_ByHand_made pc) = true := by decide +kernel
set_option maxRecDepth 20000 in
theorem am_q_ByHand_made : am_mok am_m_ByHand_made := ⟨am_chk_of am_k_ByHand_made (fun pc h => by show am_i_ByHand_made pc = none; unfold am_i_ByHand_made; rw [h]; rfl), by decide +kernel, fun _ => am_in4 (List.mem_of_getElem? (i := 62) rfl)⟩
set_option maxRecDepth 20000 in
theorem am_k_ByHand_make : ∀ pc, pc < 10 → am_chk 1 prog_3_method_3_code pc (am_i_ByHand_make pc) = true := by decide +kernel
set_option maxRecDepth 20000 in
theorem am_q_ByHand_make : am_mok am_m_ByHand_make := ⟨am_chk_of am_k_ByHand_make (fun pc h => by show am_i_ByHand_make pc = none; unfold am_i_ByHand_make; rw [h]; rfl), by decide +kernel, fun _ => am_in4 (List.mem_of_getElem? (i := 67) rfl)⟩
set_option maxRecDepth 20000 in
theorem am_k_ByHand_pieces : ∀ pc, pc < 30 → am_chk 1 prog_3_method_6_code pc (am_i_ByHand_pieces pc) = true := by decide +kernel
set_option maxRecDepth 20000 in
theorem am_q_ByHand_pieces : am_mok am_m_ByHand_pieces := ⟨am_chk_of am_k_ByHand_pieces (fun pc h => by show am_i_ByHand_pieces pc = none; unfold am_i_ByHand_pieces; rw [h]; rfl), by decide +kernel, fun _ => am_in4 (List.mem_of_getElem? (i := 76) rfl)⟩
set_option maxRecDepth 20000 in
theorem am_k_ByHand_cost : ∀ pc, pc < 84 → am_chk 1 prog_3_method_7_code pc (am_i_ByHand_cost pc) = true := by decide +kernel
set_option maxRecDepth 20000 in
theorem am_q_ByHand_cost : am_mok am_m_ByHand_cost := ⟨am_chk_of am_k_ByHand_cost (fun pc h => by show am_i_ByHand_cost pc = none; unfold am_i_ByHand_cost; rw [h]; rfl), by decide +kernel, fun _ => am_in4 (List.mem_of_getElem? (i := 84) rfl)⟩
set_option maxRecDepth 20000 in
theorem am_k_ByHand_wrong : ∀ pc, pc < 95 → am_chk 1 prog_3_method_8_code pc (am_i_ByHand_wrong pc) = true := by decide +kernel
set_option maxRecDepth 20000 in
theorem am_q_ByHand_wrong : am_mok am_m_ByHand_wrong := ⟨am_chk_of am_k_ByHand_wrong (fun pc h => by show am_i_ByHand_wrong pc = none; unfold am_i_ByHand_wrong; rw [h]; rfl), by decide +kernel, fun _ => am_in4 (List.mem_of_getElem? (i := 91) rfl)⟩
set_option maxRecDepth 20000 in
theorem am_k_ByHand_stockBehind : ∀ pc, pc < 17 → am_chk 1 prog_3_method_9_code pc (am_i_ByHand_stockBehind pc) = true := by decide +kernel
set_option maxRecDepth 20000 in
theorem am_q_ByHand_stockBehind : am_mok am_m_ByHand_stockBehind := ⟨am_chk_of am_k_ByHand_stockBehind (fun pc h => by show am_i_ByHand_stockBehind pc = none; unfold am_i_ByHand_stockBehind; rw [h]; rfl), by decide +kernel, fun _ => am_in4 (List.mem_of_getElem? (i := 97) rfl)⟩
set_option maxRecDepth 20000 in
theorem am_k_ByHand_becomeLike : ∀ pc, pc < 32 → am_chk 1 prog_3_method_5_code pc (am_i_ByHand_becomeLike pc) = true := by decide +kernel
set_option maxRecDepth 20000 in
theorem am_q_ByHand_becomeLike : am_mok am_m_ByHand_becomeLike := ⟨am_chk_of am_k_ByHand_becomeLike (fun pc h => by show am_i_ByHand_becomeLike pc = none; unfold am_i_ByHand_becomeLike; rw [h]; rfl), by decide +kernel, fun _ => am_in4 (List.mem_of_getElem? (i := 213) rfl)⟩
set_option maxRecDepth 20000 in
theorem am_k_ByRule_init : ∀ pc, pc < 20 → am_chk 2 prog_4_method_1_code pc (am_i_ByRule_init pc) = true := by decide +kernel
set_option maxRecDepth 20000 in
theorem am_q_ByRule_init : am_mok am_m_ByRule_init := ⟨am_chk_of am_k_ByRule_init (fun pc h => by show am_i_ByRule_init pc = none; unfold am_i_ByRule_init; rw [h]; rfl), by decide +kernel, fun _ => am_in1 (List.mem_of_getElem? (i := 152) rfl)⟩
set_option maxRecDepth 20000 in
theorem am_k_ByRule_reckon : ∀ pc, pc < 142 → am_chk 2 prog_4_method_2_code pc (am_i_ByRule_reckon pc) = true := by decide +kernel
set_option maxRecDepth 20000 in
theorem am_q_ByRule_reckon : am_mok am_m_ByRule_reckon := ⟨am_chk_of am_k_ByRule_reckon (fun pc h => by show am_i_ByRule_reckon pc = none; unfold am_i_ByRule_reckon; rw [h]; rfl), by decide +kernel, fun _ => am_in3 (List.mem_of_getElem? (i := 232) rfl)⟩
set_option maxRecDepth 20000 in
theorem am_k_ByRule_demandFrom : ∀ pc, pc < 27 → am_chk 2 prog_4_method_3_code pc (am_i_ByRule_demandFrom pc) = true := by decide +kernel
set_option maxRecDepth 20000 in
theorem am_q_ByRule_demandFrom : am_mok am_m_ByRule_demandFrom := ⟨am_chk_of am_k_ByRule_demandFrom (fun pc h => by show am_i_ByRule_demandFrom pc = none; unfold am_i_ByRule_demandFrom; rw [h]; rfl), by decide +kernel, fun _ => am_in3 (List.mem_of_getElem? (i := 236) rfl)⟩
set_option maxRecDepth 20000 in
theorem am_k_ByRule_endOf : ∀ pc, pc < 67 → am_chk 2 prog_4_method_4_code pc (am_i_ByRule_endOf pc) = true := by decide +kernel
set_option maxRecDepth 20000 in
theorem am_q_ByRule_endOf : am_mok am_m_ByRule_endOf := ⟨am_chk_of am_k_ByRule_endOf (fun pc h => by show am_i_ByRule_endOf pc = none; unfold am_i_ByRule_endOf; rw [h]; rfl), by decide +kernel, fun _ => am_in4 (List.mem_of_getElem? (i := 2) rfl)⟩
set_option maxRecDepth 20000 in
theorem am_k_ByRule_endByMean : ∀ pc, pc < 30 → am_chk 2 prog_4_method_5_code pc (am_i_ByRule_endByMean pc) = true := by decide +kernel
set_option maxRecDepth 20000 in
theorem am_q_ByRule_endByMean : am_mok am_m_ByRule_endByMean := ⟨am_chk_of am_k_ByRule_endByMean (fun pc h => by show am_i_ByRule_endByMean pc = none; unfold am_i_ByRule_endByMean; rw [h]; rfl), by decide +kernel, fun _ => am_in4 (List.mem_of_getElem? (i := 7) rfl)⟩
set_option maxRecDepth 20000 in
theorem am_k_ByRule_meanGrows : ∀ pc, pc < 54 → am_chk 2 prog_4_method_6_code pc (am_i_ByRule_meanGrows pc) = true := by decide +kernel
set_option maxRecDepth 20000 in
theorem am_q_ByRule_meanGrows : am_mok am_m_ByRule_meanGrows := ⟨am_chk_of am_k_ByRule_meanGrows (fun pc h => by show am_i_ByRule_meanGrows pc = none; unfold am_i_ByRule_meanGrows; rw [h]; rfl), by decide +kernel, fun _ => am_in4 (List.mem_of_getElem? (i := 11) rfl)⟩
set_option maxRecDepth 20000 in
theorem am_k_ByRule_held : ∀ pc, pc < 51 → am_chk 2 prog_4_method_8_code pc (am_i_ByRule_held pc) = true := by decide +kernel
set_option maxRecDepth 20000 in
theorem am_q_ByRule_held : am_mok am_m_ByRule_held := ⟨am_chk_of am_k_ByRule_held (fun pc h => by show am_i_ByRule_held pc = none; unfold am_i_ByRule_held; rw [h]; rfl), by decide +kernel, fun _ => am_in4 (List.mem_of_getElem? (i := 15) rfl)⟩
set_option maxRecDepth 20000 in
theorem am_k_ByRule_endByParts : ∀ pc, pc < 38 → am_chk 2 prog_4_method_7_code pc (am_i_ByRule_endByParts pc) = true := by decide +kernel
set_option maxRecDepth 20000 in
theorem am_q_ByRule_endByParts : am_mok am_m_ByRule_endByParts := ⟨am_chk_of am_k_ByRule_endByParts (fun pc h => by show am_i_ByRule_endByParts pc = none; unfold am_i_ByRule_endByParts; rw [h]; rfl), by decide +kernel, fun _ => am_in4 (List.mem_of_getElem? (i := 19) rfl)⟩
set_option maxRecDepth 20000 in
theorem am_k_ByRule_cost : ∀ pc, pc < 5 → am_chk 2 prog_4_method_9_code pc (am_i_ByRule_cost pc) = true := by decide +kernel
set_option maxRecDepth 20000 in
theorem am_q_ByRule_cost : am_mok am_m_ByRule_cost := ⟨am_chk_of am_k_ByRule_cost (fun pc h => by show am_i_ByRule_cost pc = none; unfold am_i_ByRule_cost; rw [h]; rfl), by decide +kernel, fun _ => am_in4 (List.mem_of_getElem? (i := 25) rfl)⟩
set_option maxRecDepth 20000 in
theorem am_k_ByRule_lots : ∀ pc, pc < 5 → am_chk 2 prog_4_method_10_code pc (am_i_ByRule_lots pc) = true := by decide +kernel
set_option maxRecDepth 20000 in
theorem am_q_ByRule_lots : am_mok am_m_ByRule_lots := ⟨am_chk_of am_k_ByRule_lots (fun pc h => by show am_i_ByRule_lots pc = none; unfold am_i_ByRule_lots; rw [h]; rfl), by decide +kernel, fun _ => am_in4 (List.mem_of_getElem? (i := 29) rfl)⟩
set_option maxRecDepth 20000 in
theorem am_k_ByRule_begins : ∀ pc, pc < 5 → am_chk 2 prog_4_method_11_code pc (am_i_ByRule_begins pc) = true := by decide +kernel
set_option maxRecDepth 20000 in
theorem am_q_ByRule_begins : am_mok am_m_ByRule_begins := ⟨am_chk_of am_k_ByRule_begins (fun pc h => by show am_i_ByRule_begins pc = none; unfold am_i_ByRule_begins; rw [h]; rfl), by decide +kernel, fun _ => am_in4 (List.mem_of_getElem? (i := 33) rfl)⟩
set_option maxRecDepth 20000 in
theorem am_k_Changes_init : ∀ pc, pc < 24 → am_chk 3 prog_5_method_1_code pc (am_i_Changes_init pc) = true := by decide +kernel
set_option maxRecDepth 20000 in
theorem am_q_Changes_init : am_mok am_m_Changes_init := ⟨am_chk_of am_k_Changes_init (fun pc h => by show am_i_Changes_init pc = none; unfold am_i_Changes_init; rw [h]; rfl), by decide +kernel, fun _ => am_in1 (List.mem_of_getElem? (i := 178) rfl)⟩
set_option maxRecDepth 20000 in
theorem am_k_Changes_begin : ∀ pc, pc < 11 → am_chk 3 prog_5_method_2_code pc (am_i_Changes_begin pc) = true := by decide +kernel
set_option maxRecDepth 20000 in
theorem am_q_Changes_begin : am_mok am_m_Changes_begin := ⟨am_chk_of am_k_Changes_begin (fun pc h => by show am_i_Changes_begin pc = none; unfold am_i_Changes_begin; rw [h]; rfl), by decide +kernel, fun _ => am_in2 (List.mem_of_getElem? (i := 72) rfl)⟩
set_option maxRecDepth 20000 in
theorem am_k_Changes_note : ∀ pc, pc < 47 → am_chk 3 prog_5_method_3_code pc (am_i_Changes_note pc) = true := by decide +kernel
set_option maxRecDepth 20000 in
theorem am_q_Changes_note : am_mok am_m_Changes_note := ⟨am_chk_of am_k_Changes_note (fun pc h => by show am_i_Changes_note pc = none; unfold am_i_Changes_note; rw [h]; rfl), by decide +kernel, fun _ => am_in2 (List.mem_of_getElem? (i := 93) rfl)⟩
set_option maxRecDepth 20000 in
theorem am_k_Changes_forgetFirst : ∀ pc, pc < 46 → am_chk 3 prog_5_method_4_code pc (am_i_Changes_forgetFirst pc) = true := by decide +kernel
set_option maxRecDepth 20000 in
theorem am_q_Changes_forgetFirst : am_mok am_m_Changes_forgetFirst := ⟨am_chk_of am_k_Changes_forgetFirst (fun pc h => by show am_i_Changes_forgetFirst pc = none; unfold am_i_Changes_forgetFirst; rw [h]; rfl), by decide +kernel, fun _ => am_in2 (List.mem_of_getElem? (i := 97) rfl)⟩
set_option maxRecDepth 20000 in
theorem am_k_Changes_goBack : ∀ pc, pc < 51 → am_chk 3 prog_5_method_5_code pc (am_i_Changes_goBack pc) = true := by decide +kernel
set_option maxRecDepth 20000 in
theorem am_q_Changes_goBack : am_mok am_m_Changes_goBack := ⟨am_chk_of am_k_Changes_goBack (fun pc h => by show am_i_Changes_goBack pc = none; unfold am_i_Changes_goBack; rw [h]; rfl), by decide +kernel, fun _ => am_in4 (List.mem_of_getElem? (i := 185) rfl)⟩
set_option maxRecDepth 20000 in
theorem am_k_Changes_behind : ∀ pc, pc < 5 → am_chk 3 prog_5_method_7_code pc (am_i_Changes_behind pc) = true := by decide +kernel
set_option maxRecDepth 20000 in
theorem am_q_Changes_behind : am_mok am_m_Changes_behind := ⟨am_chk_of am_k_Changes_behind (fun pc h => by show am_i_Changes_behind pc = none; unfold am_i_Changes_behind; rw [h]; rfl), by decide +kernel, fun _ => am_in4 (List.mem_of_getElem? (i := 193) rfl)⟩
set_option maxRecDepth 20000 in
theorem am_k_Changes_goOn : ∀ pc, pc < 40 → am_chk 3 prog_5_method_6_code pc (am_i_Changes_goOn pc) = true := by decide +kernel
set_option maxRecDepth 20000 in
theorem am_q_Changes_goOn : am_mok am_m_Changes_goOn := ⟨am_chk_of am_k_Changes_goOn (fun pc h => by show am_i_Changes_goOn pc = none; unfold am_i_Changes_goOn; rw [h]; rfl), by decide +kernel, fun _ => am_in4 (List.mem_of_getElem? (i := 201) rfl)⟩
set_option maxRecDepth 20000 in
theorem am_k_Changes_ahead : ∀ pc, pc < 10 → am_chk 3 prog_5_method_8_code pc (am_i_Changes_ahead pc) = true := by decide +kernel
set_option maxRecDepth 20000 in
theorem am_q_Changes_ahead : am_mok am_m_Changes_ahead := ⟨am_chk_of am_k_Changes_ahead (fun pc h => by show am_i_Changes_ahead pc = none; unfold am_i_Changes_ahead; rw [h]; rfl), by decide +kernel, fun _ => am_in4 (List.mem_of_getElem? (i := 205) rfl)⟩
set_option maxRecDepth 20000 in
theorem am_k_Lots_init : ∀ pc, pc < 40 → am_chk 4 prog_6_method_1_code pc (am_i_Lots_init pc) = true := by decide +kernel
set_option maxRecDepth 20000 in
theorem am_q_Lots_init : am_mok am_m_Lots_init := ⟨am_chk_of am_k_Lots_init (fun pc h => by show am_i_Lots_init pc = none; unfold am_i_Lots_init; rw [h]; rfl), by decide +kernel, fun _ => am_in1 (List.mem_of_getElem? (i := 65) rfl)⟩
set_option maxRecDepth 20000 in
theorem am_k_Lots_reckon : ∀ pc, pc < 149 → am_chk 4 prog_6_method_2_code pc (am_i_Lots_reckon pc) = true := by decide +kernel
set_option maxRecDepth 20000 in
theorem am_q_Lots_reckon : am_mok am_m_Lots_reckon := ⟨am_chk_of am_k_Lots_reckon (fun pc h => by show am_i_Lots_reckon pc = none; unfold am_i_Lots_reckon; rw [h]; rfl), by decide +kernel, fun _ => am_in3 (List.mem_of_getElem? (i := 47) rfl)⟩
set_option maxRecDepth 20000 in
theorem am_k_Lots_pieces : ∀ pc, pc < 20 → am_chk 4 prog_6_method_5_code pc (am_i_Lots_pieces pc) = true := by decide +kernel
set_option maxRecDepth 20000 in
theorem am_q_Lots_pieces : am_mok am_m_Lots_pieces := ⟨am_chk_of am_k_Lots_pieces (fun pc h => by show am_i_Lots_pieces pc = none; unfold am_i_Lots_pieces; rw [h]; rfl), by decide +kernel, fun _ => am_in3 (List.mem_of_getElem? (i := 57) rfl)⟩
set_option maxRecDepth 20000 in
theorem am_k_Lots_reckonMadeIn : ∀ pc, pc < 108 → am_chk 4 prog_6_method_3_code pc (am_i_Lots_reckonMadeIn pc) = true := by decide +kernel
set_option maxRecDepth 20000 in
theorem am_q_Lots_reckonMadeIn : am_mok am_m_Lots_reckonMadeIn := ⟨am_chk_of am_k_Lots_reckonMadeIn (fun pc h => by show am_i_Lots_reckonMadeIn pc = none; unfold am_i_Lots_reckonMadeIn; rw [h]; rfl), by decide +kernel, fun _ => am_in3 (List.mem_of_getElem? (i := 61) rfl)⟩
set_option maxRecDepth 20000 in
theorem am_k_Lots_offer : ∀ pc, pc < 71 → am_chk 4 prog_6_method_4_code pc (am_i_Lots_offer pc) = true := by decide +kernel
set_option maxRecDepth 20000 in
theorem am_q_Lots_offer : am_mok am_m_Lots_offer := ⟨am_chk_of am_k_Lots_offer (fun pc h => by show am_i_Lots_offer pc = none; unfold am_i_Lots_offer; rw [h]; rfl), by decide +kernel, fun _ => am_in3 (List.mem_of_getElem? (i := 65) rfl)⟩
set_option maxRecDepth 20000 in
theorem am_k_Lots_costOf : ∀ pc, pc < 14 → am_chk 4 prog_6_method_6_code pc (am_i_Lots_costOf pc) = true := by decide +kernel
set_option maxRecDepth 20000 in
theorem am_q_Lots_costOf : am_mok am_m_Lots_costOf := ⟨am_chk_of am_k_Lots_costOf (fun pc h => by show am_i_Lots_costOf pc = none; unfold am_i_Lots_costOf; rw [h]; rfl), by decide +kernel, fun _ => am_in3 (List.mem_of_getElem? (i := 80) rfl)⟩
set_option maxRecDepth 20000 in
theorem am_k_Lots_waysOf : ∀ pc, pc < 14 → am_chk 4 prog_6_method_8_code pc (am_i_Lots_waysOf pc) = true := by decide +kernel
set_option maxRecDepth 20000 in
theorem am_q_Lots_waysOf : am_mok am_m_Lots_waysOf := ⟨am_chk_of am_k_Lots_waysOf (fun pc h => by show am_i_Lots_waysOf pc = none; unfold am_i_Lots_waysOf; rw [h]; rfl), by decide +kernel, fun _ => am_in3 (List.mem_of_getElem? (i := 85) rfl)⟩
set_option maxRecDepth 20000 in
theorem am_k_Lots_makerOf : ∀ pc, pc < 14 → am_chk 4 prog_6_method_7_code pc (am_i_Lots_makerOf pc) = true := by decide +kernel
set_option maxRecDepth 20000 in
theorem am_q_Lots_makerOf : am_mok am_m_Lots_makerOf := ⟨am_chk_of am_k_Lots_makerOf (fun pc h => by show am_i_Lots_makerOf pc = none; unfold am_i_Lots_makerOf; rw [h]; rfl), by decide +kernel, fun _ => am_in3 (List.mem_of_getElem? (i := 96) rfl)⟩
set_option maxRecDepth 20000 in
theorem am_k_Numbers_init : ∀ pc, pc < 53 → am_chk 5 prog_7_method_1_code pc (am_i_Numbers_init pc) = true := by decide +kernel
set_option maxRecDepth 20000 in
theorem am_q_Numbers_init : am_mok am_m_Numbers_init := ⟨am_chk_of am_k_Numbers_init (fun pc h => by show am_i_Numbers_init pc = none; unfold am_i_Numbers_init; rw [h]; rfl), by decide +kernel, fun _ => am_in1 (List.mem_of_getElem? (i := 30) rfl)⟩
set_option maxRecDepth 20000 in
theorem am_k_Numbers_beAsAtFirst : ∀ pc, pc < 35 → am_chk 5 prog_7_method_2_code pc (am_i_Numbers_beAsAtFirst pc) = true := by decide +kernel
set_option maxRecDepth 20000 in
theorem am_q_Numbers_beAsAtFirst : am_mok am_m_Numbers_beAsAtFirst := ⟨am_chk_of am_k_Numbers_beAsAtFirst (fun pc h => by show am_i_Numbers_beAsAtFirst pc = none; unfold am_i_Numbers_beAsAtFirst; rw [h]; rfl), by decide +kernel, fun _ => am_in1 (List.mem_of_getElem? (i := 35) rfl)⟩
set_option maxRecDepth 20000 in
theorem am_k_Numbers_size : ∀ pc, pc < 5 → am_chk 5 prog_7_method_3_code pc (am_i_Numbers_size pc) = true := by decide +kernel
set_option maxRecDepth 20000 in
theorem am_q_Numbers_size : am_mok am_m_Numbers_size := ⟨am_chk_of am_k_Numbers_size (fun pc h => by show am_i_Numbers_size pc = none; unfold am_i_Numbers_size; rw [h]; rfl), by decide +kernel, fun _ => am_in2 (List.mem_of_getElem? (i := 53) rfl)⟩
set_option maxRecDepth 20000 in
theorem am_k_Numbers_resize : ∀ pc, pc < 42 → am_chk 5 prog_7_method_12_code pc (am_i_Numbers_resize pc) = true := by decide +kernel
set_option maxRecDepth 20000 in
theorem am_q_Numbers_resize : am_mok am_m_Numbers_resize := ⟨am_chk_of am_k_Numbers_resize (fun pc h => by show am_i_Numbers_resize pc = none; unfold am_i_Numbers_resize; rw [h]; rfl), by decide +kernel, fun _ => am_in2 (List.mem_of_getElem? (i := 57) rfl)⟩
set_option maxRecDepth 20000 in
theorem am_k_Numbers_has : ∀ pc, pc < 18 → am_chk 5 prog_7_method_5_code pc (am_i_Numbers_has pc) = true := by decide +kernel
set_option maxRecDepth 20000 in
theorem am_q_Numbers_has : am_mok am_m_Numbers_has := ⟨am_chk_of am_k_Numbers_has (fun pc h => by show am_i_Numbers_has pc = none; unfold am_i_Numbers_has; rw [h]; rfl), by decide +kernel, fun _ => am_in2 (List.mem_of_getElem? (i := 80) rfl)⟩
set_option maxRecDepth 20000 in
theorem am_k_Numbers_copyTo : ∀ pc, pc < 30 → am_chk 5 prog_7_method_14_code pc (am_i_Numbers_copyTo pc) = true := by decide +kernel
set_option maxRecDepth 20000 in
theorem am_q_Numbers_copyTo : am_mok am_m_Numbers_copyTo := ⟨am_chk_of am_k_Numbers_copyTo (fun pc h => by show am_i_Numbers_copyTo pc = none; unfold am_i_Numbers_copyTo; rw [h]; rfl), by decide +kernel, fun _ => am_in2 (List.mem_of_getElem? (i := 101) rfl)⟩
set_option maxRecDepth 20000 in
theorem am_k_Numbers_value : ∀ pc, pc < 51 → am_chk 5 prog_7_method_6_code pc (am_i_Numbers_value pc) = true := by decide +kernel
set_option maxRecDepth 20000 in
theorem am_q_Numbers_value : am_mok am_m_Numbers_value := ⟨am_chk_of am_k_Numbers_value (fun pc h => by show am_i_Numbers_value pc = none; unfold am_i_Numbers_value; rw [h]; rfl), by decide +kernel, fun _ => am_in2 (List.mem_of_getElem? (i := 105) rfl)⟩
set_option maxRecDepth 20000 in
theorem am_k_Numbers_become : ∀ pc, pc < 42 → am_chk 5 prog_7_method_7_code pc (am_i_Numbers_become pc) = true := by decide +kernel
set_option maxRecDepth 20000 in
theorem am_q_Numbers_become : am_mok am_m_Numbers_become := ⟨am_chk_of am_k_Numbers_become (fun pc h => by show am_i_Numbers_become pc = none; unfold am_i_Numbers_become; rw [h]; rfl), by decide +kernel, fun _ => am_in2 (List.mem_of_getElem? (i := 109) rfl)⟩
set_option maxRecDepth 20000 in
theorem am_k_Numbers_store : ∀ pc, pc < 10 → am_chk 5 prog_7_method_8_code pc (am_i_Numbers_store pc) = true := by decide +kernel
set_option maxRecDepth 20000 in
theorem am_q_Numbers_store : am_mok am_m_Numbers_store := ⟨am_chk_of am_k_Numbers_store (fun pc h => by show am_i_Numbers_store pc = none; unfold am_i_Numbers_store; rw [h]; rfl), by decide +kernel, fun _ => am_in2 (List.mem_of_getElem? (i := 123) rfl)⟩
set_option maxRecDepth 20000 in
theorem am_k_Numbers_lateMayBe : ∀ pc, pc < 10 → am_chk 5 prog_7_method_10_code pc (am_i_Numbers_lateMayBe pc) = true := by decide +kernel
set_option maxRecDepth 20000 in
theorem am_q_Numbers_lateMayBe : am_mok am_m_Numbers_lateMayBe := ⟨am_chk_of am_k_Numbers_lateMayBe (fun pc h => by show am_i_Numbers_lateMayBe pc = none; unfold am_i_Numbers_lateMayBe; rw [h]; rfl), by decide +kernel, fun _ => am_in2 (List.mem_of_getElem? (i := 127) rfl)⟩
set_option maxRecDepth 20000 in
theorem am_k_Numbers_storeBecomes : ∀ pc, pc < 21 → am_chk 5 prog_7_method_9_code pc (am_i_Numbers_storeBecomes pc) = true := by decide +kernel
set_option maxRecDepth 20000 in
theorem am_q_Numbers_storeBecomes : am_mok am_m_Numbers_storeBecomes := ⟨am_chk_of am_k_Numbers_storeBecomes (fun pc h => by show am_i_Numbers_storeBecomes pc = none; unfold am_i_Numbers_storeBecomes; rw [h]; rfl), by decide +kernel, fun _ => am_in2 (List.mem_of_getElem? (i := 131) rfl)⟩
set_option maxRecDepth 20000 in
theorem am_k_Numbers_lateMayBeBecomes : ∀ pc, pc < 21 → am_chk 5 prog_7_method_11_code pc (am_i_Numbers_lateMayBeBecomes pc) = true := by decide +kernel
set_option maxRecDepth 20000 in
theorem am_q_Numbers_lateMayBeBecomes : am_mok am_m_Numbers_lateMayBeBecomes := ⟨am_chk_of am_k_Numbers_lateMayBeBecomes (fun pc h => by show am_i_Numbers_lateMayBeBecomes pc = none; unfold am_i_Numbers_lateMayBeBecomes; rw [h]; rfl), by decide +kernel, fun _ => am_in2 (List.mem_of_getElem? (i := 135) rfl)⟩
set_option maxRecDepth 20000 in
theorem am_k_Numbers_becomeLike : ∀ pc, pc < 49 → am_chk 5 prog_7_method_13_code pc (am_i_Numbers_becomeLike pc) = true := by decide +kernel
set_option maxRecDepth 20000 in
theorem am_q_Numbers_becomeLike : am_mok am_m_Numbers_becomeLike := ⟨am_chk_of am_k_Numbers_becomeLike (fun pc h => by show am_i_Numbers_becomeLike pc = none; unfold am_i_Numbers_becomeLike; rw [h]; rfl), by decide +kernel, fun _ => am_in2 (List.mem_of_getElem? (i := 160) rfl)⟩
set_option maxRecDepth 20000 in
theorem am_k_Numbers_stamp : ∀ pc, pc < 5 → am_chk 5 prog_7_method_4_code pc (am_i_Numbers_stamp pc) = true := by decide +kernel
set_option maxRecDepth 20000 in
theorem am_q_Numbers_stamp : am_mok am_m_Numbers_stamp := ⟨am_chk_of am_k_Numbers_stamp (fun pc h => by show am_i_Numbers_stamp pc = none; unfold am_i_Numbers_stamp; rw [h]; rfl), by decide +kernel, fun _ => am_in3 (List.mem_of_getElem? (i := 43) rfl)⟩
set_option maxRecDepth 20000 in
theorem am_k_Numbers_areCalm : ∀ pc, pc < 55 → am_chk 5 prog_7_method_18_code pc (am_i_Numbers_areCalm pc) = true := by decide +kernel
set_option maxRecDepth 20000 in
theorem am_q_Numbers_areCalm : am_mok am_m_Numbers_areCalm := ⟨am_chk_of am_k_Numbers_areCalm (fun pc h => by show am_i_Numbers_areCalm pc = none; unfold am_i_Numbers_areCalm; rw [h]; rfl), by decide +kernel, fun _ => am_in3 (List.mem_of_getElem? (i := 145) rfl)⟩
set_option maxRecDepth 20000 in
theorem am_k_Numbers_pieces : ∀ pc, pc < 38 → am_chk 5 prog_7_method_16_code pc (am_i_Numbers_pieces pc) = true := by decide +kernel
set_option maxRecDepth 20000 in
theorem am_q_Numbers_pieces : am_mok am_m_Numbers_pieces := ⟨am_chk_of am_k_Numbers_pieces (fun pc h => by show am_i_Numbers_pieces pc = none; unfold am_i_Numbers_pieces; rw [h]; rfl), by decide +kernel, fun _ => am_in3 (List.mem_of_getElem? (i := 151) rfl)⟩
set_option maxRecDepth 20000 in
theorem am_k_Numbers_stockCost : ∀ pc, pc < 25 → am_chk 5 prog_7_method_17_code pc (am_i_Numbers_stockCost pc) = true := by decide +kernel
set_option maxRecDepth 20000 in
theorem am_q_Numbers_stockCost : am_mok am_m_Numbers_stockCost := ⟨am_chk_of am_k_Numbers_stockCost (fun pc h => by show am_i_Numbers_stockCost pc = none; unfold am_i_Numbers_stockCost; rw [h]; rfl), by decide +kernel, fun _ => am_in3 (List.mem_of_getElem? (i := 192) rfl)⟩
set_option maxRecDepth 20000 in
theorem am_k_Numbers_copyFrom : ∀ pc, pc < 40 → am_chk 5 prog_7_method_15_code pc (am_i_Numbers_copyFrom pc) = true := by decide +kernel
set_option maxRecDepth 20000 in
theorem am_q_Numbers_copyFrom : am_mok am_m_Numbers_copyFrom := ⟨am_chk_of am_k_Numbers_copyFrom (fun pc h => by show am_i_Numbers_copyFrom pc = none; unfold am_i_Numbers_copyFrom; rw [h]; rfl), by decide +kernel, fun _ => am_in4 (List.mem_of_getElem? (i := 189) rfl)⟩
set_option maxRecDepth 20000 in
theorem am_k_Plan_init : ∀ pc, pc < 108 → am_chk 6 prog_8_method_1_code pc (am_i_Plan_init pc) = true := by decide +kernel
set_option maxRecDepth 20000 in
theorem am_q_Plan_init : am_mok am_m_Plan_init := ⟨am_chk_of am_k_Plan_init (fun pc h => by show am_i_Plan_init pc = none; unfold am_i_Plan_init; rw [h]; rfl), by decide +kernel, fun _ => am_in1 (List.mem_of_getElem? (i := 59) rfl)⟩
set_option maxRecDepth 20000 in
theorem am_k_Plan_refresh : ∀ pc, pc < 80 → am_chk 6 prog_8_method_2_code pc (am_i_Plan_refresh pc) = true := by decide +kernel
set_option maxRecDepth 20000 in
theorem am_q_Plan_refresh : am_mok am_m_Plan_refresh := ⟨am_chk_of am_k_Plan_refresh (fun pc h => by show am_i_Plan_refresh pc = none; unfold am_i_Plan_refresh; rw [h]; rfl), by decide +kernel, fun _ => am_in3 (List.mem_of_getElem? (i := 39) rfl)⟩
set_option maxRecDepth 20000 in
theorem am_k_Plan_partCost : ∀ pc, pc < 28 → am_chk 6 prog_8_method_3_code pc (am_i_Plan_partCost pc) = true := by decide +kernel
set_option maxRecDepth 20000 in
theorem am_q_Plan_partCost : am_mok am_m_Plan_partCost := ⟨am_chk_of am_k_Plan_partCost (fun pc h => by show am_i_Plan_partCost pc = none; unfold am_i_Plan_partCost; rw [h]; rfl), by decide +kernel, fun _ => am_in3 (List.mem_of_getElem? (i := 70) rfl)⟩
set_option maxRecDepth 20000 in
theorem am_k_Plan_reckonPart : ∀ pc, pc < 194 → am_chk 6 prog_8_method_4_code pc (am_i_Plan_reckonPart pc) = true := by decide +kernel
set_option maxRecDepth 20000 in
theorem am_q_Plan_reckonPart : am_mok am_m_Plan_reckonPart := ⟨am_chk_of am_k_Plan_reckonPart (fun pc h => by show am_i_Plan_reckonPart pc = none; unfold am_i_Plan_reckonPart; rw [h]; rfl), by decide +kernel, fun _ => am_in3 (List.mem_of_getElem? (i := 74) rfl)⟩
set_option maxRecDepth 20000 in
theorem am_k_Plan_takeLots : ∀ pc, pc < 200 → am_chk 6 prog_8_method_5_code pc (am_i_Plan_takeLots pc) = true := by decide +kernel
set_option maxRecDepth 20000 in
theorem am_q_Plan_takeLots : am_mok am_m_Plan_takeLots := ⟨am_chk_of am_k_Plan_takeLots (fun pc h => by show am_i_Plan_takeLots pc = none; unfold am_i_Plan_takeLots; rw [h]; rfl), by decide +kernel, fun _ => am_in3 (List.mem_of_getElem? (i := 91) rfl)⟩
set_option maxRecDepth 20000 in
theorem am_k_Plan_reckonForward : ∀ pc, pc < 144 → am_chk 6 prog_8_method_6_code pc (am_i_Plan_reckonForward pc) = true := by decide +kernel
set_option maxRecDepth 20000 in
theorem am_q_Plan_reckonForward : am_mok am_m_Plan_reckonForward := ⟨am_chk_of am_k_Plan_reckonForward (fun pc h => by show am_i_Plan_reckonForward pc = none; unfold am_i_Plan_reckonForward; rw [h]; rfl), by decide +kernel, fun _ => am_in3 (List.mem_of_getElem? (i := 101) rfl)⟩
set_option maxRecDepth 20000 in
theorem am_k_Plan_cost : ∀ pc, pc < 5 → am_chk 6 prog_8_method_7_code pc (am_i_Plan_cost pc) = true := by decide +kernel
set_option maxRecDepth 20000 in
theorem am_q_Plan_cost : am_mok am_m_Plan_cost := ⟨am_chk_of am_k_Plan_cost (fun pc h => by show am_i_Plan_cost pc = none; unfold am_i_Plan_cost; rw [h]; rfl), by decide +kernel, fun _ => am_in3 (List.mem_of_getElem? (i := 105) rfl)⟩
set_option maxRecDepth 20000 in
theorem am_k_Plan_lots : ∀ pc, pc < 5 → am_chk 6 prog_8_method_9_code pc (am_i_Plan_lots pc) = true := by decide +kernel
set_option maxRecDepth 20000 in
theorem am_q_Plan_lots : am_mok am_m_Plan_lots := ⟨am_chk_of am_k_Plan_lots (fun pc h => by show am_i_Plan_lots pc = none; unfold am_i_Plan_lots; rw [h]; rfl), by decide +kernel, fun _ => am_in3 (List.mem_of_getElem? (i := 113) rfl)⟩
set_option maxRecDepth 20000 in
theorem am_k_Plan_ofLot : ∀ pc, pc < 90 → am_chk 6 prog_8_method_10_code pc (am_i_Plan_ofLot pc) = true := by decide +kernel
set_option maxRecDepth 20000 in
theorem am_q_Plan_ofLot : am_mok am_m_Plan_ofLot := ⟨am_chk_of am_k_Plan_ofLot (fun pc h => by show am_i_Plan_ofLot pc = none; unfold am_i_Plan_ofLot; rw [h]; rfl), by decide +kernel, fun _ => am_in3 (List.mem_of_getElem? (i := 117) rfl)⟩
set_option maxRecDepth 20000 in
theorem am_k_Plan_made : ∀ pc, pc < 9 → am_chk 6 prog_8_method_11_code pc (am_i_Plan_made pc) = true := by decide +kernel
set_option maxRecDepth 20000 in
theorem am_q_Plan_made : am_mok am_m_Plan_made := ⟨am_chk_of am_k_Plan_made (fun pc h => by show am_i_Plan_made pc = none; unfold am_i_Plan_made; rw [h]; rfl), by decide +kernel, fun _ => am_in3 (List.mem_of_getElem? (i := 125) rfl)⟩
set_option maxRecDepth 20000 in
theorem am_k_Plan_stock : ∀ pc, pc < 9 → am_chk 6 prog_8_method_12_code pc (am_i_Plan_stock pc) = true := by decide +kernel
set_option maxRecDepth 20000 in
theorem am_q_Plan_stock : am_mok am_m_Plan_stock := ⟨am_chk_of am_k_Plan_stock (fun pc h => by show am_i_Plan_stock pc = none; unfold am_i_Plan_stock; rw [h]; rfl), by decide +kernel, fun _ => am_in3 (List.mem_of_getElem? (i := 129) rfl)⟩
set_option maxRecDepth 20000 in
theorem am_k_Plan_forwardCost : ∀ pc, pc < 9 → am_chk 6 prog_8_method_13_code pc (am_i_Plan_forwardCost pc) = true := by decide +kernel
set_option maxRecDepth 20000 in
theorem am_q_Plan_forwardCost : am_mok am_m_Plan_forwardCost := ⟨am_chk_of am_k_Plan_forwardCost (fun pc h => by show am_i_Plan_forwardCost pc = none; unfold am_i_Plan_forwardCost; rw [h]; rfl), by decide +kernel, fun _ => am_in3 (List.mem_of_getElem? (i := 137) rfl)⟩
set_option maxRecDepth 20000 in
theorem am_k_Plan_lastBegin : ∀ pc, pc < 9 → am_chk 6 prog_8_method_14_code pc (am_i_Plan_lastBegin pc) = true := by decide +kernel
set_option maxRecDepth 20000 in
theorem am_q_Plan_lastBegin : am_mok am_m_Plan_lastBegin := ⟨am_chk_of am_k_Plan_lastBegin (fun pc h => by show am_i_Plan_lastBegin pc = none; unfold am_i_Plan_lastBegin; rw [h]; rfl), by decide +kernel, fun _ => am_in3 (List.mem_of_getElem? (i := 141) rfl)⟩
set_option maxRecDepth 20000 in
theorem am_k_Plan_howMany : ∀ pc, pc < 5 → am_chk 6 prog_8_method_8_code pc (am_i_Plan_howMany pc) = true := by decide +kernel
set_option maxRecDepth 20000 in
theorem am_q_Plan_howMany : am_mok am_m_Plan_howMany := ⟨am_chk_of am_k_Plan_howMany (fun pc h => by show am_i_Plan_howMany pc = none; unfold am_i_Plan_howMany; rw [h]; rfl), by decide +kernel, fun _ => am_in3 (List.mem_of_getElem? (i := 168) rfl)⟩
set_option maxRecDepth 20000 in
theorem am_k_Printed_init : ∀ pc, pc < 19 → am_chk 7 prog_9_method_1_code pc (am_i_Printed_init pc) = true := by decide +kernel
set_option maxRecDepth 20000 in
theorem am_q_Printed_init : am_mok am_m_Printed_init := ⟨am_chk_of am_k_Printed_init (fun pc h => by show am_i_Printed_init pc = none; unfold am_i_Printed_init; rw [h]; rfl), by decide +kernel, fun _ => am_in1 (List.mem_of_getElem? (i := 220) rfl)⟩
set_option maxRecDepth 20000 in
theorem am_k_Printed_write : ∀ pc, pc < 90 → am_chk 7 prog_9_method_2_code pc (am_i_Printed_write pc) = true := by decide +kernel
set_option maxRecDepth 20000 in
theorem am_q_Printed_write : am_mok am_m_Printed_write := ⟨am_chk_of am_k_Printed_write (fun pc h => by show am_i_Printed_write pc = none; unfold am_i_Printed_write; rw [h]; rfl), by decide +kernel, fun _ => am_in4 (List.mem_of_getElem? (i := 107) rfl)⟩
set_option maxRecDepth 20000 in
theorem am_k_Printed_add : ∀ pc, pc < 37 → am_chk 7 prog_9_method_4_code pc (am_i_Printed_add pc) = true := by decide +kernel
set_option maxRecDepth 20000 in
theorem am_q_Printed_add : am_mok am_m_Printed_add := ⟨am_chk_of am_k_Printed_add (fun pc h => by show am_i_Printed_add pc = none; unfold am_i_Printed_add; rw [h]; rfl), by decide +kernel, fun _ => am_in4 (List.mem_of_getElem? (i := 112) rfl)⟩
set_option maxRecDepth 20000 in
theorem am_k_Printed_addNumber : ∀ pc, pc < 53 → am_chk 7 prog_9_method_3_code pc (am_i_Printed_addNumber pc) = true := by decide +kernel
set_option maxRecDepth 20000 in
theorem am_q_Printed_addNumber : am_mok am_m_Printed_addNumber := ⟨am_chk_of am_k_Printed_addNumber (fun pc h => by show am_i_Printed_addNumber pc = none; unfold am_i_Printed_addNumber; rw [h]; rfl), by decide +kernel, fun _ => am_in4 (List.mem_of_getElem? (i := 118) rfl)⟩
set_option maxRecDepth 20000 in
theorem am_k_Printed_length : ∀ pc, pc < 5 → am_chk 7 prog_9_method_5_code pc (am_i_Printed_length pc) = true := by decide +kernel
set_option maxRecDepth 20000 in
theorem am_q_Printed_length : am_mok am_m_Printed_length := ⟨am_chk_of am_k_Printed_length (fun pc h => by show am_i_Printed_length pc = none; unfold am_i_Printed_length; rw [h]; rfl), by decide +kernel, fun _ => am_in4 (List.mem_of_getElem? (i := 123) rfl)⟩
set_option maxRecDepth 20000 in
theorem am_k_Printed_sign : ∀ pc, pc < 23 → am_chk 7 prog_9_method_6_code pc (am_i_Printed_sign pc) = true := by decide +kernel
set_option maxRecDepth 20000 in
theorem am_q_Printed_sign : am_mok am_m_Printed_sign := ⟨am_chk_of am_k_Printed_sign (fun pc h => by show am_i_Printed_sign pc = none; unfold am_i_Printed_sign; rw [h]; rfl), by decide +kernel, fun _ => am_in4 (List.mem_of_getElem? (i := 127) rfl)⟩
set_option maxRecDepth 20000 in
theorem am_k_Shelves_init : ∀ pc, pc < 44 → am_chk 8 prog_10_method_1_code pc (am_i_Shelves_init pc) = true := by decide +kernel
set_option maxRecDepth 20000 in
theorem am_q_Shelves_init : am_mok am_m_Shelves_init := ⟨am_chk_of am_k_Shelves_init (fun pc h => by show am_i_Shelves_init pc = none; unfold am_i_Shelves_init; rw [h]; rfl), by decide +kernel, fun _ => am_in1 (List.mem_of_getElem? (i := 233) rfl)⟩
set_option maxRecDepth 20000 in
theorem am_k_Shelves_begin : ∀ pc, pc < 30 → am_chk 8 prog_10_method_2_code pc (am_i_Shelves_begin pc) = true := by decide +kernel
set_option maxRecDepth 20000 in
theorem am_q_Shelves_begin : am_mok am_m_Shelves_begin := ⟨am_chk_of am_k_Shelves_begin (fun pc h => by show am_i_Shelves_begin pc = none; unfold am_i_Shelves_begin; rw [h]; rfl), by decide +kernel, fun _ => am_in4 (List.mem_of_getElem? (i := 135) rfl)⟩
set_option maxRecDepth 20000 in
theorem am_k_Shelves_store : ∀ pc, pc < 30 → am_chk 8 prog_10_method_7_code pc (am_i_Shelves_store pc) = true := by decide +kernel
set_option maxRecDepth 20000 in
theorem am_q_Shelves_store : am_mok am_m_Shelves_store := ⟨am_chk_of am_k_Shelves_store (fun pc h => by show am_i_Shelves_store pc = none; unfold am_i_Shelves_store; rw [h]; rfl), by decide +kernel, fun _ => am_in4 (List.mem_of_getElem? (i := 140) rfl)⟩
set_option maxRecDepth 20000 in
theorem am_k_Shelves_placeOf : ∀ pc, pc < 7 → am_chk 8 prog_10_method_5_code pc (am_i_Shelves_placeOf pc) = true := by decide +kernel
set_option maxRecDepth 20000 in
theorem am_q_Shelves_placeOf : am_mok am_m_Shelves_placeOf := ⟨am_chk_of am_k_Shelves_placeOf (fun pc h => by show am_i_Shelves_placeOf pc = none; unfold am_i_Shelves_placeOf; rw [h]; rfl), by decide +kernel, fun _ => am_in4 (List.mem_of_getElem? (i := 144) rfl)⟩
set_option maxRecDepth 20000 in
theorem am_k_Shelves_holds : ∀ pc, pc < 25 → am_chk 8 prog_10_method_3_code pc (am_i_Shelves_holds pc) = true := by decide +kernel
set_option maxRecDepth 20000 in
theorem am_q_Shelves_holds : am_mok am_m_Shelves_holds := ⟨am_chk_of am_k_Shelves_holds (fun pc h => by show am_i_Shelves_holds pc = none; unfold am_i_Shelves_holds; rw [h]; rfl), by decide +kernel, fun _ => am_in4 (List.mem_of_getElem? (i := 153) rfl)⟩
set_option maxRecDepth 20000 in
theorem am_k_Shelves_hasPlace : ∀ pc, pc < 29 → am_chk 8 prog_10_method_4_code pc (am_i_Shelves_hasPlace pc) = true := by decide +kernel
set_option maxRecDepth 20000 in
theorem am_q_Shelves_hasPlace : am_mok am_m_Shelves_hasPlace := ⟨am_chk_of am_k_Shelves_hasPlace (fun pc h => by show am_i_Shelves_hasPlace pc = none; unfold am_i_Shelves_hasPlace; rw [h]; rfl), by decide +kernel, fun _ => am_in4 (List.mem_of_getElem? (i := 158) rfl)⟩
set_option maxRecDepth 20000 in
theorem am_k_Shelves_value : ∀ pc, pc < 30 → am_chk 8 prog_10_method_6_code pc (am_i_Shelves_value pc) = true := by decide +kernel
set_option maxRecDepth 20000 in
theorem am_q_Shelves_value : am_mok am_m_Shelves_value := ⟨am_chk_of am_k_Shelves_value (fun pc h => by show am_i_Shelves_value pc = none; unfold am_i_Shelves_value; rw [h]; rfl), by decide +kernel, fun _ => am_in4 (List.mem_of_getElem? (i := 169) rfl)⟩
set_option maxRecDepth 20000 in
theorem am_k_Text_init : ∀ pc, pc < 38 → am_chk 9 prog_11_method_1_code pc (am_i_Text_init pc) = true := by decide +kernel
set_option maxRecDepth 20000 in
theorem am_q_Text_init : am_mok am_m_Text_init := ⟨am_chk_of am_k_Text_init (fun pc h => by show am_i_Text_init pc = none; unfold am_i_Text_init; rw [h]; rfl), by decide +kernel, fun _ => am_in1 (List.mem_of_getElem? (i := 194) rfl)⟩
set_option maxRecDepth 20000 in
theorem am_k_Text_take : ∀ pc, pc < 39 → am_chk 9 prog_11_method_3_code pc (am_i_Text_take pc) = true := by decide +kernel
set_option maxRecDepth 20000 in
theorem am_q_Text_take : am_mok am_m_Text_take := ⟨am_chk_of am_k_Text_take (fun pc h => by show am_i_Text_take pc = none; unfold am_i_Text_take; rw [h]; rfl), by decide +kernel, fun _ => am_in2 (List.mem_of_getElem? (i := 147) rfl)⟩
set_option maxRecDepth 20000 in
theorem am_k_Text_length : ∀ pc, pc < 5 → am_chk 9 prog_11_method_2_code pc (am_i_Text_length pc) = true := by decide +kernel
set_option maxRecDepth 20000 in
theorem am_q_Text_length : am_mok am_m_Text_length := ⟨am_chk_of am_k_Text_length (fun pc h => by show am_i_Text_length pc = none; unfold am_i_Text_length; rw [h]; rfl), by decide +kernel, fun _ => am_in2 (List.mem_of_getElem? (i := 152) rfl)⟩
set_option maxRecDepth 20000 in
theorem am_k_Text_tellTo : ∀ pc, pc < 79 → am_chk 9 prog_11_method_5_code pc (am_i_Text_tellTo pc) = true := by decide +kernel
set_option maxRecDepth 20000 in
theorem am_q_Text_tellTo : am_mok am_m_Text_tellTo := ⟨am_chk_of am_k_Text_tellTo (fun pc h => by show am_i_Text_tellTo pc = none; unfold am_i_Text_tellTo; rw [h]; rfl), by decide +kernel, fun _ => am_in2 (List.mem_of_getElem? (i := 164) rfl)⟩
set_option maxRecDepth 20000 in
theorem am_k_Text_lookAtClause : ∀ pc, pc < 42 → am_chk 9 prog_11_method_7_code pc (am_i_Text_lookAtClause pc) = true := by decide +kernel
set_option maxRecDepth 20000 in
theorem am_q_Text_lookAtClause : am_mok am_m_Text_lookAtClause := ⟨am_chk_of am_k_Text_lookAtClause (fun pc h => by show am_i_Text_lookAtClause pc = none; unfold am_i_Text_lookAtClause; rw [h]; rfl), by decide +kernel, fun _ => am_in2 (List.mem_of_getElem? (i := 168) rfl)⟩
set_option maxRecDepth 20000 in
theorem am_k_Text_lookAtWord : ∀ pc, pc < 103 → am_chk 9 prog_11_method_8_code pc (am_i_Text_lookAtWord pc) = true := by decide +kernel
set_option maxRecDepth 20000 in
theorem am_q_Text_lookAtWord : am_mok am_m_Text_lookAtWord := ⟨am_chk_of am_k_Text_lookAtWord (fun pc h => by show am_i_Text_lookAtWord pc = none; unfold am_i_Text_lookAtWord; rw [h]; rfl), by decide +kernel, fun _ => am_in2 (List.mem_of_getElem? (i := 172) rfl)⟩
set_option maxRecDepth 20000 in
theorem am_k_Text_signAt : ∀ pc, pc < 31 → am_chk 9 prog_11_method_15_code pc (am_i_Text_signAt pc) = true := by decide +kernel
set_option maxRecDepth 20000 in
theorem am_q_Text_signAt : am_mok am_m_Text_signAt := ⟨am_chk_of am_k_Text_signAt (fun pc h => by show am_i_Text_signAt pc = none; unfold am_i_Text_signAt; rw [h]; rfl), by decide +kernel, fun _ => am_in2 (List.mem_of_getElem? (i := 176) rfl)⟩
set_option maxRecDepth 20000 in
theorem am_k_Text_wordOf : ∀ pc, pc < 54 → am_chk 9 prog_11_method_10_code pc (am_i_Text_wordOf pc) = true := by decide +kernel
set_option maxRecDepth 20000 in
theorem am_q_Text_wordOf : am_mok am_m_Text_wordOf := ⟨am_chk_of am_k_Text_wordOf (fun pc h => by show am_i_Text_wordOf pc = none; unfold am_i_Text_wordOf; rw [h]; rfl), by decide +kernel, fun _ => am_in2 (List.mem_of_getElem? (i := 180) rfl)⟩
set_option maxRecDepth 20000 in
theorem am_k_Text_stands : ∀ pc, pc < 51 → am_chk 9 prog_11_method_9_code pc (am_i_Text_stands pc) = true := by decide +kernel
set_option maxRecDepth 20000 in
theorem am_q_Text_stands : am_mok am_m_Text_stands := ⟨am_chk_of am_k_Text_stands (fun pc h => by show am_i_Text_stands pc = none; unfold am_i_Text_stands; rw [h]; rfl), by decide +kernel, fun _ => am_in2 (List.mem_of_getElem? (i := 190) rfl)⟩
set_option maxRecDepth 20000 in
theorem am_k_Text_lookAtBlank : ∀ pc, pc < 27 → am_chk 9 prog_11_method_11_code pc (am_i_Text_lookAtBlank pc) = true := by decide +kernel
set_option maxRecDepth 20000 in
theorem am_q_Text_lookAtBlank : am_mok am_m_Text_lookAtBlank := ⟨am_chk_of am_k_Text_lookAtBlank (fun pc h => by show am_i_Text_lookAtBlank pc = none; unfold am_i_Text_lookAtBlank; rw [h]; rfl), by decide +kernel, fun _ => am_in3 (List.mem_of_getElem? (i := 2) rfl)⟩
set_option maxRecDepth 20000 in
theorem am_k_Text_lookAtPeriod : ∀ pc, pc < 64 → am_chk 9 prog_11_method_12_code pc (am_i_Text_lookAtPeriod pc) = true := by decide +kernel
set_option maxRecDepth 20000 in
theorem am_q_Text_lookAtPeriod : am_mok am_m_Text_lookAtPeriod := ⟨am_chk_of am_k_Text_lookAtPeriod (fun pc h => by show am_i_Text_lookAtPeriod pc = none; unfold am_i_Text_lookAtPeriod; rw [h]; rfl), by decide +kernel, fun _ => am_in3 (List.mem_of_getElem? (i := 6) rfl)⟩
set_option maxRecDepth 20000 in
theorem am_k_Text_figures : ∀ pc, pc < 87 → am_chk 9 prog_11_method_14_code pc (am_i_Text_figures pc) = true := by decide +kernel
set_option maxRecDepth 20000 in
theorem am_q_Text_figures : am_mok am_m_Text_figures := ⟨am_chk_of am_k_Text_figures (fun pc h => by show am_i_Text_figures pc = none; unfold am_i_Text_figures; rw [h]; rfl), by decide +kernel, fun _ => am_in3 (List.mem_of_getElem? (i := 10) rfl)⟩
set_option maxRecDepth 20000 in
theorem am_k_Text_lookAtNumber : ∀ pc, pc < 37 → am_chk 9 prog_11_method_13_code pc (am_i_Text_lookAtNumber pc) = true := by decide +kernel
set_option maxRecDepth 20000 in
theorem am_q_Text_lookAtNumber : am_mok am_m_Text_lookAtNumber := ⟨am_chk_of am_k_Text_lookAtNumber (fun pc h => by show am_i_Text_lookAtNumber pc = none; unfold am_i_Text_lookAtNumber; rw [h]; rfl), by decide +kernel, fun _ => am_in3 (List.mem_of_getElem? (i := 15) rfl)⟩
set_option maxRecDepth 20000 in
theorem am_k_Text_tellClause : ∀ pc, pc < 69 → am_chk 9 prog_11_method_6_code pc (am_i_Text_tellClause pc) = true := by decide +kernel
set_option maxRecDepth 20000 in
theorem am_q_Text_tellClause : am_mok am_m_Text_tellClause := ⟨am_chk_of am_k_Text_tellClause (fun pc h => by show am_i_Text_tellClause pc = none; unfold am_i_Text_tellClause; rw [h]; rfl), by decide +kernel, fun _ => am_in3 (List.mem_of_getElem? (i := 20) rfl)⟩
set_option maxRecDepth 20000 in
theorem am_k_Text_clear : ∀ pc, pc < 6 → am_chk 9 prog_11_method_4_code pc (am_i_Text_clear pc) = true := by decide +kernel
set_option maxRecDepth 20000 in
theorem am_q_Text_clear : am_mok am_m_Text_clear := ⟨am_chk_of am_k_Text_clear (fun pc h => by show am_i_Text_clear pc = none; unfold am_i_Text_clear; rw [h]; rfl), by decide +kernel, fun _ => am_in3 (List.mem_of_getElem? (i := 26) rfl)⟩
set_option maxRecDepth 20000 in
theorem am_k_Lp_init : ∀ pc, pc < 153 → am_chk 10 prog_1_method_1_code pc (am_i_Lp_init pc) = true := by decide +kernel
set_option maxRecDepth 20000 in
theorem am_q_Lp_init : am_mok am_m_Lp_init := ⟨am_chk_of am_k_Lp_init (fun pc h => by show am_i_Lp_init pc = none; unfold am_i_Lp_init; rw [h]; rfl), by decide +kernel, fun _ => am_in1 (List.mem_of_getElem? (i := 22) rfl)⟩
set_option maxRecDepth 20000 in
theorem am_k_Lp_at : ∀ pc, pc < 18 → am_chk 10 prog_1_method_40_code pc (am_i_Lp_at pc) = true := by decide +kernel
set_option maxRecDepth 20000 in
theorem am_q_Lp_at : am_mok am_m_Lp_at := ⟨am_chk_of am_k_Lp_at (fun pc h => by show am_i_Lp_at pc = none; unfold am_i_Lp_at; rw [h]; rfl), by decide +kernel, fun _ => am_in1 (List.mem_of_getElem? (i := 40) rfl)⟩
set_option maxRecDepth 20000 in
theorem am_k_Lp_lay : ∀ pc, pc < 15 → am_chk 10 prog_1_method_41_code pc (am_i_Lp_lay pc) = true := by decide +kernel
set_option maxRecDepth 20000 in
theorem am_q_Lp_lay : am_mok am_m_Lp_lay := ⟨am_chk_of am_k_Lp_lay (fun pc h => by show am_i_Lp_lay pc = none; unfold am_i_Lp_lay; rw [h]; rfl), by decide +kernel, fun _ => am_in1 (List.mem_of_getElem? (i := 43) rfl)⟩
set_option maxRecDepth 20000 in
theorem am_k_Lp_periods : ∀ pc, pc < 57 → am_chk 10 prog_1_method_2_code pc (am_i_Lp_periods pc) = true := by decide +kernel
set_option maxRecDepth 20000 in
theorem am_q_Lp_periods : am_mok am_m_Lp_periods := ⟨am_chk_of am_k_Lp_periods (fun pc h => by show am_i_Lp_periods pc = none; unfold am_i_Lp_periods; rw [h]; rfl), by decide +kernel, fun _ => am_in2 (List.mem_of_getElem? (i := 49) rfl)⟩
set_option maxRecDepth 20000 in
theorem am_k_Lp_tell : ∀ pc, pc < 56 → am_chk 10 prog_1_method_3_code pc (am_i_Lp_tell pc) = true := by decide +kernel
set_option maxRecDepth 20000 in
theorem am_q_Lp_tell : am_mok am_m_Lp_tell := ⟨am_chk_of am_k_Lp_tell (fun pc h => by show am_i_Lp_tell pc = none; unfold am_i_Lp_tell; rw [h]; rfl), by decide +kernel, fun _ => am_in2 (List.mem_of_getElem? (i := 76) rfl)⟩
set_option maxRecDepth 20000 in
theorem am_k_Lp_mayBe : ∀ pc, pc < 30 → am_chk 10 prog_1_method_38_code pc (am_i_Lp_mayBe pc) = true := by decide +kernel
set_option maxRecDepth 20000 in
theorem am_q_Lp_mayBe : am_mok am_m_Lp_mayBe := ⟨am_chk_of am_k_Lp_mayBe (fun pc h => by show am_i_Lp_mayBe pc = none; unfold am_i_Lp_mayBe; rw [h]; rfl), by decide +kernel, fun _ => am_in2 (List.mem_of_getElem? (i := 83) rfl)⟩
set_option maxRecDepth 20000 in
theorem am_k_Lp_inside : ∀ pc, pc < 15 → am_chk 10 prog_1_method_39_code pc (am_i_Lp_inside pc) = true := by decide +kernel
set_option maxRecDepth 20000 in
theorem am_q_Lp_inside : am_mok am_m_Lp_inside := ⟨am_chk_of am_k_Lp_inside (fun pc h => by show am_i_Lp_inside pc = none; unfold am_i_Lp_inside; rw [h]; rfl), by decide +kernel, fun _ => am_in2 (List.mem_of_getElem? (i := 86) rfl)⟩
set_option maxRecDepth 20000 in
theorem am_k_Lp_tellAll : ∀ pc, pc < 82 → am_chk 10 prog_1_method_4_code pc (am_i_Lp_tellAll pc) = true := by decide +kernel
set_option maxRecDepth 20000 in
theorem am_q_Lp_tellAll : am_mok am_m_Lp_tellAll := ⟨am_chk_of am_k_Lp_tellAll (fun pc h => by show am_i_Lp_tellAll pc = none; unfold am_i_Lp_tellAll; rw [h]; rfl), by decide +kernel, fun _ => am_in2 (List.mem_of_getElem? (i := 115) rfl)⟩
set_option maxRecDepth 20000 in
theorem am_k_Lp_let : ∀ pc, pc < 88 → am_chk 10 prog_1_method_5_code pc (am_i_Lp_let pc) = true := by decide +kernel
set_option maxRecDepth 20000 in
theorem am_q_Lp_let : am_mok am_m_Lp_let := ⟨am_chk_of am_k_Lp_let (fun pc h => by show am_i_Lp_let pc = none; unfold am_i_Lp_let; rw [h]; rfl), by decide +kernel, fun _ => am_in2 (List.mem_of_getElem? (i := 119) rfl)⟩
set_option maxRecDepth 20000 in
theorem am_k_Lp_of : ∀ pc, pc < 32 → am_chk 10 prog_1_method_6_code pc (am_i_Lp_of pc) = true := by decide +kernel
set_option maxRecDepth 20000 in
theorem am_q_Lp_of : am_mok am_m_Lp_of := ⟨am_chk_of am_k_Lp_of (fun pc h => by show am_i_Lp_of pc = none; unfold am_i_Lp_of; rw [h]; rfl), by decide +kernel, fun _ => am_in2 (List.mem_of_getElem? (i := 139) rfl)⟩
set_option maxRecDepth 20000 in
theorem am_k_Lp_feed : ∀ pc, pc < 39 → am_chk 10 prog_1_method_7_code pc (am_i_Lp_feed pc) = true := by decide +kernel
set_option maxRecDepth 20000 in
theorem am_q_Lp_feed : am_mok am_m_Lp_feed := ⟨am_chk_of am_k_Lp_feed (fun pc h => by show am_i_Lp_feed pc = none; unfold am_i_Lp_feed; rw [h]; rfl), by decide +kernel, fun _ => am_in2 (List.mem_of_getElem? (i := 143) rfl)⟩
set_option maxRecDepth 20000 in
theorem am_k_Lp_read : ∀ pc, pc < 60 → am_chk 10 prog_1_method_8_code pc (am_i_Lp_read pc) = true := by decide +kernel
set_option maxRecDepth 20000 in
theorem am_q_Lp_read : am_mok am_m_Lp_read := ⟨am_chk_of am_k_Lp_read (fun pc h => by show am_i_Lp_read pc = none; unfold am_i_Lp_read; rw [h]; rfl), by decide +kernel, fun _ => am_in2 (List.mem_of_getElem? (i := 156) rfl)⟩
set_option maxRecDepth 20000 in
theorem am_k_Lp_least : ∀ pc, pc < 8 → am_chk 10 prog_1_method_9_code pc (am_i_Lp_least pc) = true := by decide +kernel
set_option maxRecDepth 20000 in
theorem am_q_Lp_least : am_mok am_m_Lp_least := ⟨am_chk_of am_k_Lp_least (fun pc h => by show am_i_Lp_least pc = none; unfold am_i_Lp_least; rw [h]; rfl), by decide +kernel, fun _ => am_in3 (List.mem_of_getElem? (i := 31) rfl)⟩
set_option maxRecDepth 20000 in
theorem am_k_Lp_planNow : ∀ pc, pc < 16 → am_chk 10 prog_1_method_36_code pc (am_i_Lp_planNow pc) = true := by decide +kernel
set_option maxRecDepth 20000 in
theorem am_q_Lp_planNow : am_mok am_m_Lp_planNow := ⟨am_chk_of am_k_Lp_planNow (fun pc h => by show am_i_Lp_planNow pc = none; unfold am_i_Lp_planNow; rw [h]; rfl), by decide +kernel, fun _ => am_in3 (List.mem_of_getElem? (i := 35) rfl)⟩
set_option maxRecDepth 20000 in
theorem am_k_Lp_lot : ∀ pc, pc < 56 → am_chk 10 prog_1_method_10_code pc (am_i_Lp_lot pc) = true := by decide +kernel
set_option maxRecDepth 20000 in
theorem am_q_Lp_lot : am_mok am_m_Lp_lot := ⟨am_chk_of am_k_Lp_lot (fun pc h => by show am_i_Lp_lot pc = none; unfold am_i_Lp_lot; rw [h]; rfl), by decide +kernel, fun _ => am_in3 (List.mem_of_getElem? (i := 109) rfl)⟩
set_option maxRecDepth 20000 in
theorem am_k_Lp_by : ∀ pc, pc < 48 → am_chk 10 prog_1_method_11_code pc (am_i_Lp_by pc) = true := by decide +kernel
set_option maxRecDepth 20000 in
theorem am_q_Lp_by : am_mok am_m_Lp_by := ⟨am_chk_of am_k_Lp_by (fun pc h => by show am_i_Lp_by pc = none; unfold am_i_Lp_by; rw [h]; rfl), by decide +kernel, fun _ => am_in3 (List.mem_of_getElem? (i := 121) rfl)⟩
set_option maxRecDepth 20000 in
theorem am_k_Lp_forward : ∀ pc, pc < 113 → am_chk 10 prog_1_method_12_code pc (am_i_Lp_forward pc) = true := by decide +kernel
set_option maxRecDepth 20000 in
theorem am_q_Lp_forward : am_mok am_m_Lp_forward := ⟨am_chk_of am_k_Lp_forward (fun pc h => by show am_i_Lp_forward pc = none; unfold am_i_Lp_forward; rw [h]; rfl), by decide +kernel, fun _ => am_in3 (List.mem_of_getElem? (i := 133) rfl)⟩
set_option maxRecDepth 20000 in
theorem am_k_Lp_calm : ∀ pc, pc < 16 → am_chk 10 prog_1_method_13_code pc (am_i_Lp_calm pc) = true := by decide +kernel
set_option maxRecDepth 20000 in
theorem am_q_Lp_calm : am_mok am_m_Lp_calm := ⟨am_chk_of am_k_Lp_calm (fun pc h => by show am_i_Lp_calm pc = none; unfold am_i_Lp_calm; rw [h]; rfl), by decide +kernel, fun _ => am_in3 (List.mem_of_getElem? (i := 155) rfl)⟩
set_option maxRecDepth 20000 in
theorem am_k_Lp_part : ∀ pc, pc < 43 → am_chk 10 prog_1_method_14_code pc (am_i_Lp_part pc) = true := by decide +kernel
set_option maxRecDepth 20000 in
theorem am_q_Lp_part : am_mok am_m_Lp_part := ⟨am_chk_of am_k_Lp_part (fun pc h => by show am_i_Lp_part pc = none; unfold am_i_Lp_part; rw [h]; rfl), by decide +kernel, fun _ => am_in3 (List.mem_of_getElem? (i := 159) rfl)⟩
set_option maxRecDepth 20000 in
theorem am_k_Lp_ways : ∀ pc, pc < 8 → am_chk 10 prog_1_method_15_code pc (am_i_Lp_ways pc) = true := by decide +kernel
set_option maxRecDepth 20000 in
theorem am_q_Lp_ways : am_mok am_m_Lp_ways := ⟨am_chk_of am_k_Lp_ways (fun pc h => by show am_i_Lp_ways pc = none; unfold am_i_Lp_ways; rw [h]; rfl), by decide +kernel, fun _ => am_in3 (List.mem_of_getElem? (i := 164) rfl)⟩
set_option maxRecDepth 20000 in
theorem am_k_Lp_bounded : ∀ pc, pc < 71 → am_chk 10 prog_1_method_16_code pc (am_i_Lp_bounded pc) = true := by decide +kernel
set_option maxRecDepth 20000 in
theorem am_q_Lp_bounded : am_mok am_m_Lp_bounded := ⟨am_chk_of am_k_Lp_bounded (fun pc h => by show am_i_Lp_bounded pc = none; unfold am_i_Lp_bounded; rw [h]; rfl), by decide +kernel, fun _ => am_in3 (List.mem_of_getElem? (i := 172) rfl)⟩
set_option maxRecDepth 20000 in
theorem am_k_Lp_rule : ∀ pc, pc < 86 → am_chk 10 prog_1_method_17_code pc (am_i_Lp_rule pc) = true := by decide +kernel
set_option maxRecDepth 20000 in
theorem am_q_Lp_rule : am_mok am_m_Lp_rule := ⟨am_chk_of am_k_Lp_rule (fun pc h => by show am_i_Lp_rule pc = none; unfold am_i_Lp_rule; rw [h]; rfl), by decide +kernel, fun _ => am_in3 (List.mem_of_getElem? (i := 228) rfl)⟩
set_option maxRecDepth 20000 in
theorem am_k_Lp_thumb : ∀ pc, pc < 99 → am_chk 10 prog_1_method_18_code pc (am_i_Lp_thumb pc) = true := by decide +kernel
set_option maxRecDepth 20000 in
theorem am_q_Lp_thumb : am_mok am_m_Lp_thumb := ⟨am_chk_of am_k_Lp_thumb (fun pc h => by show am_i_Lp_thumb pc = none; unfold am_i_Lp_thumb; rw [h]; rfl), by decide +kernel, fun _ => am_in4 (List.mem_of_getElem? (i := 37) rfl)⟩
set_option maxRecDepth 20000 in
theorem am_k_Lp_more : ∀ pc, pc < 59 → am_chk 10 prog_1_method_19_code pc (am_i_Lp_more pc) = true := by decide +kernel
set_option maxRecDepth 20000 in
theorem am_q_Lp_more : am_mok am_m_Lp_more := ⟨am_chk_of am_k_Lp_more (fun pc h => by show am_i_Lp_more pc = none; unfold am_i_Lp_more; rw [h]; rfl), by decide +kernel, fun _ => am_in4 (List.mem_of_getElem? (i := 42) rfl)⟩
set_option maxRecDepth 20000 in
theorem am_k_Lp_planWith : ∀ pc, pc < 37 → am_chk 10 prog_1_method_37_code pc (am_i_Lp_planWith pc) = true := by decide +kernel
set_option maxRecDepth 20000 in
theorem am_q_Lp_planWith : am_mok am_m_Lp_planWith := ⟨am_chk_of am_k_Lp_planWith (fun pc h => by show am_i_Lp_planWith pc = none; unfold am_i_Lp_planWith; rw [h]; rfl), by decide +kernel, fun _ => am_in4 (List.mem_of_getElem? (i := 46) rfl)⟩
set_option maxRecDepth 20000 in
theorem am_k_Lp_keeps : ∀ pc, pc < 101 → am_chk 10 prog_1_method_20_code pc (am_i_Lp_keeps pc) = true := by decide +kernel
set_option maxRecDepth 20000 in
theorem am_q_Lp_keeps : am_mok am_m_Lp_keeps := ⟨am_chk_of am_k_Lp_keeps (fun pc h => by show am_i_Lp_keeps pc = none; unfold am_i_Lp_keeps; rw [h]; rfl), by decide +kernel, fun _ => am_in4 (List.mem_of_getElem? (i := 50) rfl)⟩
set_option maxRecDepth 20000 in
theorem am_k_Lp_touched : ∀ pc, pc < 129 → am_chk 10 prog_1_method_21_code pc (am_i_Lp_touched pc) = true := by decide +kernel
set_option maxRecDepth 20000 in
theorem am_q_Lp_touched : am_mok am_m_Lp_touched := ⟨am_chk_of am_k_Lp_touched (fun pc h => by show am_i_Lp_touched pc = none; unfold am_i_Lp_touched; rw [h]; rfl), by decide +kernel, fun _ => am_in4 (List.mem_of_getElem? (i := 54) rfl)⟩
set_option maxRecDepth 20000 in
theorem am_k_Lp_hand : ∀ pc, pc < 44 → am_chk 10 prog_1_method_22_code pc (am_i_Lp_hand pc) = true := by decide +kernel
set_option maxRecDepth 20000 in
theorem am_q_Lp_hand : am_mok am_m_Lp_hand := ⟨am_chk_of am_k_Lp_hand (fun pc h => by show am_i_Lp_hand pc = none; unfold am_i_Lp_hand; rw [h]; rfl), by decide +kernel, fun _ => am_in4 (List.mem_of_getElem? (i := 58) rfl)⟩
set_option maxRecDepth 20000 in
theorem am_k_Lp_handAs : ∀ pc, pc < 114 → am_chk 10 prog_1_method_23_code pc (am_i_Lp_handAs pc) = true := by decide +kernel
set_option maxRecDepth 20000 in
theorem am_q_Lp_handAs : am_mok am_m_Lp_handAs := ⟨am_chk_of am_k_Lp_handAs (fun pc h => by show am_i_Lp_handAs pc = none; unfold am_i_Lp_handAs; rw [h]; rfl), by decide +kernel, fun _ => am_in4 (List.mem_of_getElem? (i := 72) rfl)⟩
set_option maxRecDepth 20000 in
theorem am_k_Lp_judged : ∀ pc, pc < 60 → am_chk 10 prog_1_method_24_code pc (am_i_Lp_judged pc) = true := by decide +kernel
set_option maxRecDepth 20000 in
theorem am_q_Lp_judged : am_mok am_m_Lp_judged := ⟨am_chk_of am_k_Lp_judged (fun pc h => by show am_i_Lp_judged pc = none; unfold am_i_Lp_judged; rw [h]; rfl), by decide +kernel, fun _ => am_in4 (List.mem_of_getElem? (i := 80) rfl)⟩
set_option maxRecDepth 20000 in
theorem am_k_Lp_print : ∀ pc, pc < 56 → am_chk 10 prog_1_method_25_code pc (am_i_Lp_print pc) = true := by decide +kernel
set_option maxRecDepth 20000 in
theorem am_q_Lp_print : am_mok am_m_Lp_print := ⟨am_chk_of am_k_Lp_print (fun pc h => by show am_i_Lp_print pc = none; unfold am_i_Lp_print; rw [h]; rfl), by decide +kernel, fun _ => am_in4 (List.mem_of_getElem? (i := 103) rfl)⟩
set_option maxRecDepth 20000 in
theorem am_k_Lp_row : ∀ pc, pc < 34 → am_chk 10 prog_1_method_26_code pc (am_i_Lp_row pc) = true := by decide +kernel
set_option maxRecDepth 20000 in
theorem am_q_Lp_row : am_mok am_m_Lp_row := ⟨am_chk_of am_k_Lp_row (fun pc h => by show am_i_Lp_row pc = none; unfold am_i_Lp_row; rw [h]; rfl), by decide +kernel, fun _ => am_in4 (List.mem_of_getElem? (i := 131) rfl)⟩
set_option maxRecDepth 20000 in
theorem am_k_Lp_put : ∀ pc, pc < 51 → am_chk 10 prog_1_method_27_code pc (am_i_Lp_put pc) = true := by decide +kernel
set_option maxRecDepth 20000 in
theorem am_q_Lp_put : am_mok am_m_Lp_put := ⟨am_chk_of am_k_Lp_put (fun pc h => by show am_i_Lp_put pc = none; unfold am_i_Lp_put; rw [h]; rfl), by decide +kernel, fun _ => am_in4 (List.mem_of_getElem? (i := 149) rfl)⟩
set_option maxRecDepth 20000 in
theorem am_k_Lp_get : ∀ pc, pc < 34 → am_chk 10 prog_1_method_28_code pc (am_i_Lp_get pc) = true := by decide +kernel
set_option maxRecDepth 20000 in
theorem am_q_Lp_get : am_mok am_m_Lp_get := ⟨am_chk_of am_k_Lp_get (fun pc h => by show am_i_Lp_get pc = none; unfold am_i_Lp_get; rw [h]; rfl), by decide +kernel, fun _ => am_in4 (List.mem_of_getElem? (i := 164) rfl)⟩
set_option maxRecDepth 20000 in
theorem am_k_Lp_from : ∀ pc, pc < 157 → am_chk 10 prog_1_method_29_code pc (am_i_Lp_from pc) = true := by decide +kernel
set_option maxRecDepth 20000 in
theorem am_q_Lp_from : am_mok am_m_Lp_from := ⟨am_chk_of am_k_Lp_from (fun pc h => by show am_i_Lp_from pc = none; unfold am_i_Lp_from; rw [h]; rfl), by decide +kernel, fun _ => am_in4 (List.mem_of_getElem? (i := 173) rfl)⟩
set_option maxRecDepth 20000 in
theorem am_k_Lp_into : ∀ pc, pc < 152 → am_chk 10 prog_1_method_30_code pc (am_i_Lp_into pc) = true := by decide +kernel
set_option maxRecDepth 20000 in
theorem am_q_Lp_into : am_mok am_m_Lp_into := ⟨am_chk_of am_k_Lp_into (fun pc h => by show am_i_Lp_into pc = none; unfold am_i_Lp_into; rw [h]; rfl), by decide +kernel, fun _ => am_in4 (List.mem_of_getElem? (i := 177) rfl)⟩
set_option maxRecDepth 20000 in
theorem am_k_Lp_undo : ∀ pc, pc < 27 → am_chk 10 prog_1_method_31_code pc (am_i_Lp_undo pc) = true := by decide +kernel
set_option maxRecDepth 20000 in
theorem am_q_Lp_undo : am_mok am_m_Lp_undo := ⟨am_chk_of am_k_Lp_undo (fun pc h => by show am_i_Lp_undo pc = none; unfold am_i_Lp_undo; rw [h]; rfl), by decide +kernel, fun _ => am_in4 (List.mem_of_getElem? (i := 181) rfl)⟩
set_option maxRecDepth 20000 in
theorem am_k_Lp_redo : ∀ pc, pc < 27 → am_chk 10 prog_1_method_32_code pc (am_i_Lp_redo pc) = true := by decide +kernel
set_option maxRecDepth 20000 in
theorem am_q_Lp_redo : am_mok am_m_Lp_redo := ⟨am_chk_of am_k_Lp_redo (fun pc h => by show am_i_Lp_redo pc = none; unfold am_i_Lp_redo; rw [h]; rfl), by decide +kernel, fun _ => am_in4 (List.mem_of_getElem? (i := 197) rfl)⟩
set_option maxRecDepth 20000 in
theorem am_k_Lp_image : ∀ pc, pc < 35 → am_chk 10 prog_1_method_33_code pc (am_i_Lp_image pc) = true := by decide +kernel
set_option maxRecDepth 20000 in
theorem am_q_Lp_image : am_mok am_m_Lp_image := ⟨am_chk_of am_k_Lp_image (fun pc h => by show am_i_Lp_image pc = none; unfold am_i_Lp_image; rw [h]; rfl), by decide +kernel, fun _ => am_in4 (List.mem_of_getElem? (i := 209) rfl)⟩
set_option maxRecDepth 20000 in
theorem am_k_Lp_back : ∀ pc, pc < 47 → am_chk 10 prog_1_method_34_code pc (am_i_Lp_back pc) = true := by decide +kernel
set_option maxRecDepth 20000 in
theorem am_q_Lp_back : am_mok am_m_Lp_back := ⟨am_chk_of am_k_Lp_back (fun pc h => by show am_i_Lp_back pc = none; unfold am_i_Lp_back; rw [h]; rfl), by decide +kernel, fun _ => am_in4 (List.mem_of_getElem? (i := 217) rfl)⟩
set_option maxRecDepth 20000 in
theorem am_k_Lp_count : ∀ pc, pc < 112 → am_chk 10 prog_1_method_35_code pc (am_i_Lp_count pc) = true := by decide +kernel
set_option maxRecDepth 20000 in
theorem am_q_Lp_count : am_mok am_m_Lp_count := ⟨am_chk_of am_k_Lp_count (fun pc h => by show am_i_Lp_count pc = none; unfold am_i_Lp_count; rw [h]; rfl), by decide +kernel, fun _ => am_in4 (List.mem_of_getElem? (i := 221) rfl)⟩
set_option maxRecDepth 20000 in
theorem am_k_Model_init : ∀ pc, pc < 239 → am_chk 11 prog_13_method_1_code pc (am_i_Model_init pc) = true := by decide +kernel
set_option maxRecDepth 20000 in
theorem am_q_Model_init : am_mok am_m_Model_init := ⟨am_chk_of am_k_Model_init (fun pc h => by show am_i_Model_init pc = none; unfold am_i_Model_init; rw [h]; rfl), by decide +kernel, fun _ => am_in4 (List.mem_of_getElem? (i := 226) rfl)⟩
set_option maxRecDepth 20000 in
theorem am_k_Model_fresh : ∀ pc, pc < 72 → am_chk 11 prog_13_method_3_code pc (am_i_Model_fresh pc) = true := by decide +kernel
set_option maxRecDepth 20000 in
theorem am_q_Model_fresh : am_mok am_m_Model_fresh := ⟨am_chk_of am_k_Model_fresh (fun pc h => by show am_i_Model_fresh pc = none; unfold am_i_Model_fresh; rw [h]; rfl), by decide +kernel, fun _ => am_in4 (List.mem_of_getElem? (i := 231) rfl)⟩
set_option maxRecDepth 20000 in
theorem am_k_Model_noChanges : ∀ pc, pc < 16 → am_chk 11 prog_13_method_11_code pc (am_i_Model_noChanges pc) = true := by decide +kernel
set_option maxRecDepth 20000 in
theorem am_q_Model_noChanges : am_mok am_m_Model_noChanges := ⟨am_chk_of am_k_Model_noChanges (fun pc h => by show am_i_Model_noChanges pc = none; unfold am_i_Model_noChanges; rw [h]; rfl), by decide +kernel, fun _ => am_in4 (List.mem_of_getElem? (i := 235) rfl)⟩
set_option maxRecDepth 20000 in
theorem am_k_Model_lies : ∀ pc, pc < 32 → am_chk 11 prog_13_method_9_code pc (am_i_Model_lies pc) = true := by decide +kernel
set_option maxRecDepth 20000 in
theorem am_q_Model_lies : am_mok am_m_Model_lies := ⟨am_chk_of am_k_Model_lies (fun pc h => by show am_i_Model_lies pc = none; unfold am_i_Model_lies; rw [h]; rfl), by decide +kernel, fun _ => am_in4 (List.mem_of_getElem? (i := 239) rfl)⟩
set_option maxRecDepth 20000 in
theorem am_k_Model_undo : ∀ pc, pc < 33 → am_chk 11 prog_13_method_13_code pc (am_i_Model_undo pc) = true := by decide +kernel
set_option maxRecDepth 20000 in
theorem am_q_Model_undo : am_mok am_m_Model_undo := ⟨am_chk_of am_k_Model_undo (fun pc h => by show am_i_Model_undo pc = none; unfold am_i_Model_undo; rw [h]; rfl), by decide +kernel, fun _ => am_in5 (List.mem_of_getElem? (i := 115) rfl)⟩
set_option maxRecDepth 20000 in
theorem am_k_Model_comesBack : ∀ pc, pc < 32 → am_chk 11 prog_13_method_10_code pc (am_i_Model_comesBack pc) = true := by decide +kernel
set_option maxRecDepth 20000 in
theorem am_q_Model_comesBack : am_mok am_m_Model_comesBack := ⟨am_chk_of am_k_Model_comesBack (fun pc h => by show am_i_Model_comesBack pc = none; unfold am_i_Model_comesBack; rw [h]; rfl), by decide +kernel, fun _ => am_in5 (List.mem_of_getElem? (i := 119) rfl)⟩
set_option maxRecDepth 20000 in
theorem am_k_Model_redo : ∀ pc, pc < 42 → am_chk 11 prog_13_method_14_code pc (am_i_Model_redo pc) = true := by decide +kernel
set_option maxRecDepth 20000 in
theorem am_q_Model_redo : am_mok am_m_Model_redo := ⟨am_chk_of am_k_Model_redo (fun pc h => by show am_i_Model_redo pc = none; unfold am_i_Model_redo; rw [h]; rfl), by decide +kernel, fun _ => am_in5 (List.mem_of_getElem? (i := 123) rfl)⟩
set_option maxRecDepth 20000 in
theorem am_k_Model_periods : ∀ pc, pc < 53 → am_chk 11 prog_13_method_15_code pc (am_i_Model_periods pc) = true := by decide +kernel
set_option maxRecDepth 20000 in
theorem am_q_Model_periods : am_mok am_m_Model_periods := ⟨am_chk_of am_k_Model_periods (fun pc h => by show am_i_Model_periods pc = none; unfold am_i_Model_periods; rw [h]; rfl), by decide +kernel, fun _ => am_in5 (List.mem_of_getElem? (i := 127) rfl)⟩
set_option maxRecDepth 20000 in
theorem am_k_Model_isIn : ∀ pc, pc < 19 → am_chk 11 prog_13_method_2_code pc (am_i_Model_isIn pc) = true := by decide +kernel
set_option maxRecDepth 20000 in
theorem am_q_Model_isIn : am_mok am_m_Model_isIn := ⟨am_chk_of am_k_Model_isIn (fun pc h => by show am_i_Model_isIn pc = none; unfold am_i_Model_isIn; rw [h]; rfl), by decide +kernel, fun _ => am_in5 (List.mem_of_getElem? (i := 131) rfl)⟩
set_option maxRecDepth 20000 in
theorem am_k_Model_tell : ∀ pc, pc < 52 → am_chk 11 prog_13_method_16_code pc (am_i_Model_tell pc) = true := by decide +kernel
set_option maxRecDepth 20000 in
theorem am_q_Model_tell : am_mok am_m_Model_tell := ⟨am_chk_of am_k_Model_tell (fun pc h => by show am_i_Model_tell pc = none; unfold am_i_Model_tell; rw [h]; rfl), by decide +kernel, fun _ => am_in5 (List.mem_of_getElem? (i := 135) rfl)⟩
set_option maxRecDepth 20000 in
theorem am_k_Model_isPeriod : ∀ pc, pc < 14 → am_chk 11 prog_13_method_5_code pc (am_i_Model_isPeriod pc) = true := by decide +kernel
set_option maxRecDepth 20000 in
theorem am_q_Model_isPeriod : am_mok am_m_Model_isPeriod := ⟨am_chk_of am_k_Model_isPeriod (fun pc h => by show am_i_Model_isPeriod pc = none; unfold am_i_Model_isPeriod; rw [h]; rfl), by decide +kernel, fun _ => am_in5 (List.mem_of_getElem? (i := 139) rfl)⟩
set_option maxRecDepth 20000 in
theorem am_k_Model_isWhich : ∀ pc, pc < 10 → am_chk 11 prog_13_method_6_code pc (am_i_Model_isWhich pc) = true := by decide +kernel
set_option maxRecDepth 20000 in
theorem am_q_Model_isWhich : am_mok am_m_Model_isWhich := ⟨am_chk_of am_k_Model_isWhich (fun pc h => by show am_i_Model_isWhich pc = none; unfold am_i_Model_isWhich; rw [h]; rfl), by decide +kernel, fun _ => am_in5 (List.mem_of_getElem? (i := 142) rfl)⟩
set_option maxRecDepth 20000 in
theorem am_k_Model_mayBe : ∀ pc, pc < 26 → am_chk 11 prog_13_method_7_code pc (am_i_Model_mayBe pc) = true := by decide +kernel
set_option maxRecDepth 20000 in
theorem am_q_Model_mayBe : am_mok am_m_Model_mayBe := ⟨am_chk_of am_k_Model_mayBe (fun pc h => by show am_i_Model_mayBe pc = none; unfold am_i_Model_mayBe; rw [h]; rfl), by decide +kernel, fun _ => am_in5 (List.mem_of_getElem? (i := 146) rfl)⟩
set_option maxRecDepth 20000 in
theorem am_k_Model_num : ∀ pc, pc < 12 → am_chk 11 prog_13_method_4_code pc (am_i_Model_num pc) = true := by decide +kernel
set_option maxRecDepth 20000 in
theorem am_q_Model_num : am_mok am_m_Model_num := ⟨am_chk_of am_k_Model_num (fun pc h => by show am_i_Model_num pc = none; unfold am_i_Model_num; rw [h]; rfl), by decide +kernel, fun _ => am_in5 (List.mem_of_getElem? (i := 152) rfl)⟩
set_option maxRecDepth 20000 in
theorem am_k_Model_changed : ∀ pc, pc < 76 → am_chk 11 prog_13_method_12_code pc (am_i_Model_changed pc) = true := by decide +kernel
set_option maxRecDepth 20000 in
theorem am_q_Model_changed : am_mok am_m_Model_changed := ⟨am_chk_of am_k_Model_changed (fun pc h => by show am_i_Model_changed pc = none; unfold am_i_Model_changed; rw [h]; rfl), by decide +kernel, fun _ => am_in5 (List.mem_of_getElem? (i := 156) rfl)⟩
set_option maxRecDepth 20000 in
theorem am_k_Model_tellAll : ∀ pc, pc < 82 → am_chk 11 prog_13_method_17_code pc (am_i_Model_tellAll pc) = true := by decide +kernel
set_option maxRecDepth 20000 in
theorem am_q_Model_tellAll : am_mok am_m_Model_tellAll := ⟨am_chk_of am_k_Model_tellAll (fun pc h => by show am_i_Model_tellAll pc = none; unfold am_i_Model_tellAll; rw [h]; rfl), by decide +kernel, fun _ => am_in5 (List.mem_of_getElem? (i := 160) rfl)⟩
set_option maxRecDepth 20000 in
theorem am_k_Model_let : ∀ pc, pc < 58 → am_chk 11 prog_13_method_18_code pc (am_i_Model_let pc) = true := by decide +kernel
set_option maxRecDepth 20000 in
theorem am_q_Model_let : am_mok am_m_Model_let := ⟨am_chk_of am_k_Model_let (fun pc h => by show am_i_Model_let pc = none; unfold am_i_Model_let; rw [h]; rfl), by decide +kernel, fun _ => am_in5 (List.mem_of_getElem? (i := 164) rfl)⟩
set_option maxRecDepth 20000 in
theorem am_k_Model_of : ∀ pc, pc < 26 → am_chk 11 prog_13_method_19_code pc (am_i_Model_of pc) = true := by decide +kernel
set_option maxRecDepth 20000 in
theorem am_q_Model_of : am_mok am_m_Model_of := ⟨am_chk_of am_k_Model_of (fun pc h => by show am_i_Model_of pc = none; unfold am_i_Model_of; rw [h]; rfl), by decide +kernel, fun _ => am_in5 (List.mem_of_getElem? (i := 168) rfl)⟩
set_option maxRecDepth 20000 in
theorem am_k_Model_feed : ∀ pc, pc < 53 → am_chk 11 prog_13_method_20_code pc (am_i_Model_feed pc) = true := by decide +kernel
set_option maxRecDepth 20000 in
theorem am_q_Model_feed : am_mok am_m_Model_feed := ⟨am_chk_of am_k_Model_feed (fun pc h => by show am_i_Model_feed pc = none; unfold am_i_Model_feed; rw [h]; rfl), by decide +kernel, fun _ => am_in5 (List.mem_of_getElem? (i := 172) rfl)⟩
set_option maxRecDepth 20000 in
theorem am_k_Model_read : ∀ pc, pc < 43 → am_chk 11 prog_13_method_31_code pc (am_i_Model_read pc) = true := by decide +kernel
set_option maxRecDepth 20000 in
theorem am_q_Model_read : am_mok am_m_Model_read := ⟨am_chk_of am_k_Model_read (fun pc h => by show am_i_Model_read pc = none; unfold am_i_Model_read; rw [h]; rfl), by decide +kernel, fun _ => am_in5 (List.mem_of_getElem? (i := 178) rfl)⟩
set_option maxRecDepth 20000 in
theorem am_k_Model_clauses : ∀ pc, pc < 72 → am_chk 11 prog_13_method_30_code pc (am_i_Model_clauses pc) = true := by decide +kernel
set_option maxRecDepth 20000 in
theorem am_q_Model_clauses : am_mok am_m_Model_clauses := ⟨am_chk_of am_k_Model_clauses (fun pc h => by show am_i_Model_clauses pc = none; unfold am_i_Model_clauses; rw [h]; rfl), by decide +kernel, fun _ => am_in5 (List.mem_of_getElem? (i := 182) rfl)⟩
set_option maxRecDepth 20000 in
theorem am_k_Model_isClause : ∀ pc, pc < 127 → am_chk 11 prog_13_method_29_code pc (am_i_Model_isClause pc) = true := by decide +kernel
set_option maxRecDepth 20000 in
theorem am_q_Model_isClause : am_mok am_m_Model_isClause := ⟨am_chk_of am_k_Model_isClause (fun pc h => by show am_i_Model_isClause pc = none; unfold am_i_Model_isClause; rw [h]; rfl), by decide +kernel, fun _ => am_in5 (List.mem_of_getElem? (i := 186) rfl)⟩
set_option maxRecDepth 20000 in
theorem am_k_Model_which : ∀ pc, pc < 145 → am_chk 11 prog_13_method_26_code pc (am_i_Model_which pc) = true := by decide +kernel
set_option maxRecDepth 20000 in
theorem am_q_Model_which : am_mok am_m_Model_which := ⟨am_chk_of am_k_Model_which (fun pc h => by show am_i_Model_which pc = none; unfold am_i_Model_which; rw [h]; rfl), by decide +kernel, fun _ => am_in5 (List.mem_of_getElem? (i := 190) rfl)⟩
set_option maxRecDepth 20000 in
theorem am_k_Model_here : ∀ pc, pc < 25 → am_chk 11 prog_13_method_21_code pc (am_i_Model_here pc) = true := by decide +kernel
set_option maxRecDepth 20000 in
theorem am_q_Model_here : am_mok am_m_Model_here := ⟨am_chk_of am_k_Model_here (fun pc h => by show am_i_Model_here pc = none; unfold am_i_Model_here; rw [h]; rfl), by decide +kernel, fun _ => am_in5 (List.mem_of_getElem? (i := 194) rfl)⟩
set_option maxRecDepth 20000 in
theorem am_k_Model_isWord : ∀ pc, pc < 67 → am_chk 11 prog_13_method_25_code pc (am_i_Model_isWord pc) = true := by decide +kernel
set_option maxRecDepth 20000 in
theorem am_q_Model_isWord : am_mok am_m_Model_isWord := ⟨am_chk_of am_k_Model_isWord (fun pc h => by show am_i_Model_isWord pc = none; unfold am_i_Model_isWord; rw [h]; rfl), by decide +kernel, fun _ => am_in5 (List.mem_of_getElem? (i := 201) rfl)⟩
set_option maxRecDepth 20000 in
theorem am_k_Model_fails : ∀ pc, pc < 14 → am_chk 11 prog_13_method_23_code pc (am_i_Model_fails pc) = true := by decide +kernel
set_option maxRecDepth 20000 in
theorem am_q_Model_fails : am_mok am_m_Model_fails := ⟨am_chk_of am_k_Model_fails (fun pc h => by show am_i_Model_fails pc = none; unfold am_i_Model_fails; rw [h]; rfl), by decide +kernel, fun _ => am_in5 (List.mem_of_getElem? (i := 212) rfl)⟩
set_option maxRecDepth 20000 in
theorem am_k_Model_isSign : ∀ pc, pc < 29 → am_chk 11 prog_13_method_24_code pc (am_i_Model_isSign pc) = true := by decide +kernel
set_option maxRecDepth 20000 in
theorem am_q_Model_isSign : am_mok am_m_Model_isSign := ⟨am_chk_of am_k_Model_isSign (fun pc h => by show am_i_Model_isSign pc = none; unfold am_i_Model_isSign; rw [h]; rfl), by decide +kernel, fun _ => am_in5 (List.mem_of_getElem? (i := 216) rfl)⟩
set_option maxRecDepth 20000 in
theorem am_k_Model_periodHere : ∀ pc, pc < 62 → am_chk 11 prog_13_method_28_code pc (am_i_Model_periodHere pc) = true := by decide +kernel
set_option maxRecDepth 20000 in
theorem am_q_Model_periodHere : am_mok am_m_Model_periodHere := ⟨am_chk_of am_k_Model_periodHere (fun pc h => by show am_i_Model_periodHere pc = none; unfold am_i_Model_periodHere; rw [h]; rfl), by decide +kernel, fun _ => am_in5 (List.mem_of_getElem? (i := 220) rfl)⟩
set_option maxRecDepth 20000 in
theorem am_k_Model_isFigure : ∀ pc, pc < 72 → am_chk 11 prog_13_method_27_code pc (am_i_Model_isFigure pc) = true := by decide +kernel
set_option maxRecDepth 20000 in
theorem am_q_Model_isFigure : am_mok am_m_Model_isFigure := ⟨am_chk_of am_k_Model_isFigure (fun pc h => by show am_i_Model_isFigure pc = none; unfold am_i_Model_isFigure; rw [h]; rfl), by decide +kernel, fun _ => am_in5 (List.mem_of_getElem? (i := 224) rfl)⟩
set_option maxRecDepth 20000 in
theorem am_k_Model_isDigit : ∀ pc, pc < 15 → am_chk 11 prog_13_method_22_code pc (am_i_Model_isDigit pc) = true := by decide +kernel
set_option maxRecDepth 20000 in
theorem am_q_Model_isDigit : am_mok am_m_Model_isDigit := ⟨am_chk_of am_k_Model_isDigit (fun pc h => by show am_i_Model_isDigit pc = none; unfold am_i_Model_isDigit; rw [h]; rfl), by decide +kernel, fun _ => am_in5 (List.mem_of_getElem? (i := 228) rfl)⟩
set_option maxRecDepth 20000 in
theorem am_k_Model_least : ∀ pc, pc < 5 → am_chk 11 prog_13_method_40_code pc (am_i_Model_least pc) = true := by decide +kernel
set_option maxRecDepth 20000 in
theorem am_q_Model_least : am_mok am_m_Model_least := ⟨am_chk_of am_k_Model_least (fun pc h => by show am_i_Model_least pc = none; unfold am_i_Model_least; rw [h]; rfl), by decide +kernel, fun _ => am_in5 (List.mem_of_getElem? (i := 234) rfl)⟩
set_option maxRecDepth 20000 in
theorem am_k_Model_thePlan : ∀ pc, pc < 141 → am_chk 11 prog_13_method_39_code pc (am_i_Model_thePlan pc) = true := by decide +kernel
set_option maxRecDepth 20000 in
theorem am_q_Model_thePlan : am_mok am_m_Model_thePlan := ⟨am_chk_of am_k_Model_thePlan (fun pc h => by show am_i_Model_thePlan pc = none; unfold am_i_Model_thePlan; rw [h]; rfl), by decide +kernel, fun _ => am_in5 (List.mem_of_getElem? (i := 238) rfl)⟩
set_option maxRecDepth 20000 in
theorem am_k_Model_plans : ∀ pc, pc < 54 → am_chk 11 prog_13_method_38_code pc (am_i_Model_plans pc) = true := by decide +kernel
set_option maxRecDepth 20000 in
theorem am_q_Model_plans : am_mok am_m_Model_plans := ⟨am_chk_of am_k_Model_plans (fun pc h => by show am_i_Model_plans pc = none; unfold am_i_Model_plans; rw [h]; rfl), by decide +kernel, fun _ => am_in6 (List.mem_of_getElem? (i := 2) rfl)⟩
set_option maxRecDepth 20000 in
theorem am_k_Model_demand : ∀ pc, pc < 29 → am_chk 11 prog_13_method_32_code pc (am_i_Model_demand pc) = true := by decide +kernel
set_option maxRecDepth 20000 in
theorem am_q_Model_demand : am_mok am_m_Model_demand := ⟨am_chk_of am_k_Model_demand (fun pc h => by show am_i_Model_demand pc = none; unfold am_i_Model_demand; rw [h]; rfl), by decide +kernel, fun _ => am_in6 (List.mem_of_getElem? (i := 6) rfl)⟩
set_option maxRecDepth 20000 in
theorem am_k_Model_looks : ∀ pc, pc < 104 → am_chk 11 prog_13_method_37_code pc (am_i_Model_looks pc) = true := by decide +kernel
set_option maxRecDepth 20000 in
theorem am_q_Model_looks : am_mok am_m_Model_looks := ⟨am_chk_of am_k_Model_looks (fun pc h => by show am_i_Model_looks pc = none; unfold am_i_Model_looks; rw [h]; rfl), by decide +kernel, fun _ => am_in6 (List.mem_of_getElem? (i := 10) rfl)⟩
set_option maxRecDepth 20000 in
theorem am_k_Model_isLot : ∀ pc, pc < 33 → am_chk 11 prog_13_method_35_code pc (am_i_Model_isLot pc) = true := by decide +kernel
set_option maxRecDepth 20000 in
theorem am_q_Model_isLot : am_mok am_m_Model_isLot := ⟨am_chk_of am_k_Model_isLot (fun pc h => by show am_i_Model_isLot pc = none; unfold am_i_Model_isLot; rw [h]; rfl), by decide +kernel, fun _ => am_in6 (List.mem_of_getElem? (i := 15) rfl)⟩
set_option maxRecDepth 20000 in
theorem am_k_Model_isLate : ∀ pc, pc < 17 → am_chk 11 prog_13_method_8_code pc (am_i_Model_isLate pc) = true := by decide +kernel
set_option maxRecDepth 20000 in
theorem am_q_Model_isLate : am_mok am_m_Model_isLate := ⟨am_chk_of am_k_Model_isLate (fun pc h => by show am_i_Model_isLate pc = none; unfold am_i_Model_isLate; rw [h]; rfl), by decide +kernel, fun _ => am_in6 (List.mem_of_getElem? (i := 19) rfl)⟩
set_option maxRecDepth 20000 in
theorem am_k_Model_cost : ∀ pc, pc < 35 → am_chk 11 prog_13_method_36_code pc (am_i_Model_cost pc) = true := by decide +kernel
set_option maxRecDepth 20000 in
theorem am_q_Model_cost : am_mok am_m_Model_cost := ⟨am_chk_of am_k_Model_cost (fun pc h => by show am_i_Model_cost pc = none; unfold am_i_Model_cost; rw [h]; rfl), by decide +kernel, fun _ => am_in6 (List.mem_of_getElem? (i := 23) rfl)⟩
set_option maxRecDepth 20000 in
theorem am_k_Model_held : ∀ pc, pc < 39 → am_chk 11 prog_13_method_33_code pc (am_i_Model_held pc) = true := by decide +kernel
set_option maxRecDepth 20000 in
theorem am_q_Model_held : am_mok am_m_Model_held := ⟨am_chk_of am_k_Model_held (fun pc h => by show am_i_Model_held pc = none; unfold am_i_Model_held; rw [h]; rfl), by decide +kernel, fun _ => am_in6 (List.mem_of_getElem? (i := 27) rfl)⟩
set_option maxRecDepth 20000 in
theorem am_k_Model_owed : ∀ pc, pc < 37 → am_chk 11 prog_13_method_34_code pc (am_i_Model_owed pc) = true := by decide +kernel
set_option maxRecDepth 20000 in
theorem am_q_Model_owed : am_mok am_m_Model_owed := ⟨am_chk_of am_k_Model_owed (fun pc h => by show am_i_Model_owed pc = none; unfold am_i_Model_owed; rw [h]; rfl), by decide +kernel, fun _ => am_in6 (List.mem_of_getElem? (i := 31) rfl)⟩
set_option maxRecDepth 20000 in
theorem am_k_Model_lot : ∀ pc, pc < 141 → am_chk 11 prog_13_method_41_code pc (am_i_Model_lot pc) = true := by decide +kernel
set_option maxRecDepth 20000 in
theorem am_q_Model_lot : am_mok am_m_Model_lot := ⟨am_chk_of am_k_Model_lot (fun pc h => by show am_i_Model_lot pc = none; unfold am_i_Model_lot; rw [h]; rfl), by decide +kernel, fun _ => am_in6 (List.mem_of_getElem? (i := 35) rfl)⟩
set_option maxRecDepth 20000 in
theorem am_k_Model_by : ∀ pc, pc < 50 → am_chk 11 prog_13_method_43_code pc (am_i_Model_by pc) = true := by decide +kernel
set_option maxRecDepth 20000 in
theorem am_q_Model_by : am_mok am_m_Model_by := ⟨am_chk_of am_k_Model_by (fun pc h => by show am_i_Model_by pc = none; unfold am_i_Model_by; rw [h]; rfl), by decide +kernel, fun _ => am_in6 (List.mem_of_getElem? (i := 40) rfl)⟩
set_option maxRecDepth 20000 in
theorem am_k_Model_stock : ∀ pc, pc < 34 → am_chk 11 prog_13_method_42_code pc (am_i_Model_stock pc) = true := by decide +kernel
set_option maxRecDepth 20000 in
theorem am_q_Model_stock : am_mok am_m_Model_stock := ⟨am_chk_of am_k_Model_stock (fun pc h => by show am_i_Model_stock pc = none; unfold am_i_Model_stock; rw [h]; rfl), by decide +kernel, fun _ => am_in6 (List.mem_of_getElem? (i := 44) rfl)⟩
set_option maxRecDepth 20000 in
theorem am_k_Model_forward : ∀ pc, pc < 85 → am_chk 11 prog_13_method_49_code pc (am_i_Model_forward pc) = true := by decide +kernel
set_option maxRecDepth 20000 in
theorem am_q_Model_forward : am_mok am_m_Model_forward := ⟨am_chk_of am_k_Model_forward (fun pc h => by show am_i_Model_forward pc = none; unfold am_i_Model_forward; rw [h]; rfl), by decide +kernel, fun _ => am_in6 (List.mem_of_getElem? (i := 48) rfl)⟩
set_option maxRecDepth 20000 in
theorem am_k_Model_forwards : ∀ pc, pc < 94 → am_chk 11 prog_13_method_45_code pc (am_i_Model_forwards pc) = true := by decide +kernel
set_option maxRecDepth 20000 in
theorem am_q_Model_forwards : am_mok am_m_Model_forwards := ⟨am_chk_of am_k_Model_forwards (fun pc h => by show am_i_Model_forwards pc = none; unfold am_i_Model_forwards; rw [h]; rfl), by decide +kernel, fun _ => am_in6 (List.mem_of_getElem? (i := 53) rfl)⟩
set_option maxRecDepth 20000 in
theorem am_k_Model_leastLot : ∀ pc, pc < 44 → am_chk 11 prog_13_method_44_code pc (am_i_Model_leastLot pc) = true := by decide +kernel
set_option maxRecDepth 20000 in
theorem am_q_Model_leastLot : am_mok am_m_Model_leastLot := ⟨am_chk_of am_k_Model_leastLot (fun pc h => by show am_i_Model_leastLot pc = none; unfold am_i_Model_leastLot; rw [h]; rfl), by decide +kernel, fun _ => am_in6 (List.mem_of_getElem? (i := 57) rfl)⟩
set_option maxRecDepth 20000 in
theorem am_k_Model_forwardOf : ∀ pc, pc < 40 → am_chk 11 prog_13_method_46_code pc (am_i_Model_forwardOf pc) = true := by decide +kernel
set_option maxRecDepth 20000 in
theorem am_q_Model_forwardOf : am_mok am_m_Model_forwardOf := ⟨am_chk_of am_k_Model_forwardOf (fun pc h => by show am_i_Model_forwardOf pc = none; unfold am_i_Model_forwardOf; rw [h]; rfl), by decide +kernel, fun _ => am_in6 (List.mem_of_getElem? (i := 62) rfl)⟩
set_option maxRecDepth 20000 in
theorem am_k_Model_lastOf : ∀ pc, pc < 136 → am_chk 11 prog_13_method_47_code pc (am_i_Model_lastOf pc) = true := by decide +kernel
set_option maxRecDepth 20000 in
theorem am_q_Model_lastOf : am_mok am_m_Model_lastOf := ⟨am_chk_of am_k_Model_lastOf (fun pc h => by show am_i_Model_lastOf pc = none; unfold am_i_Model_lastOf; rw [h]; rfl), by decide +kernel, fun _ => am_in6 (List.mem_of_getElem? (i := 66) rfl)⟩
set_option maxRecDepth 20000 in
theorem am_k_Model_isCalm : ∀ pc, pc < 65 → am_chk 11 prog_13_method_48_code pc (am_i_Model_isCalm pc) = true := by decide +kernel
set_option maxRecDepth 20000 in
theorem am_q_Model_isCalm : am_mok am_m_Model_isCalm := ⟨am_chk_of am_k_Model_isCalm (fun pc h => by show am_i_Model_isCalm pc = none; unfold am_i_Model_isCalm; rw [h]; rfl), by decide +kernel, fun _ => am_in6 (List.mem_of_getElem? (i := 71) rfl)⟩
set_option maxRecDepth 20000 in
theorem am_k_Model_calm : ∀ pc, pc < 13 → am_chk 11 prog_13_method_50_code pc (am_i_Model_calm pc) = true := by decide +kernel
set_option maxRecDepth 20000 in
theorem am_q_Model_calm : am_mok am_m_Model_calm := ⟨am_chk_of am_k_Model_calm (fun pc h => by show am_i_Model_calm pc = none; unfold am_i_Model_calm; rw [h]; rfl), by decide +kernel, fun _ => am_in6 (List.mem_of_getElem? (i := 75) rfl)⟩
set_option maxRecDepth 20000 in
theorem am_k_Model_part : ∀ pc, pc < 34 → am_chk 11 prog_13_method_51_code pc (am_i_Model_part pc) = true := by decide +kernel
set_option maxRecDepth 20000 in
theorem am_q_Model_part : am_mok am_m_Model_part := ⟨am_chk_of am_k_Model_part (fun pc h => by show am_i_Model_part pc = none; unfold am_i_Model_part; rw [h]; rfl), by decide +kernel, fun _ => am_in6 (List.mem_of_getElem? (i := 79) rfl)⟩
set_option maxRecDepth 20000 in
theorem am_k_Model_ways : ∀ pc, pc < 55 → am_chk 11 prog_13_method_53_code pc (am_i_Model_ways pc) = true := by decide +kernel
set_option maxRecDepth 20000 in
theorem am_q_Model_ways : am_mok am_m_Model_ways := ⟨am_chk_of am_k_Model_ways (fun pc h => by show am_i_Model_ways pc = none; unfold am_i_Model_ways; rw [h]; rfl), by decide +kernel, fun _ => am_in6 (List.mem_of_getElem? (i := 83) rfl)⟩
set_option maxRecDepth 20000 in
theorem am_k_Model_waysFrom : ∀ pc, pc < 105 → am_chk 11 prog_13_method_52_code pc (am_i_Model_waysFrom pc) = true := by decide +kernel
set_option maxRecDepth 20000 in
theorem am_q_Model_waysFrom : am_mok am_m_Model_waysFrom := ⟨am_chk_of am_k_Model_waysFrom (fun pc h => by show am_i_Model_waysFrom pc = none; unfold am_i_Model_waysFrom; rw [h]; rfl), by decide +kernel, fun _ => am_in6 (List.mem_of_getElem? (i := 87) rfl)⟩
set_option maxRecDepth 20000 in
theorem am_k_Model_bounded : ∀ pc, pc < 39 → am_chk 11 prog_13_method_57_code pc (am_i_Model_bounded pc) = true := by decide +kernel
set_option maxRecDepth 20000 in
theorem am_q_Model_bounded : am_mok am_m_Model_bounded := ⟨am_chk_of am_k_Model_bounded (fun pc h => by show am_i_Model_bounded pc = none; unfold am_i_Model_bounded; rw [h]; rfl), by decide +kernel, fun _ => am_in6 (List.mem_of_getElem? (i := 91) rfl)⟩
set_option maxRecDepth 20000 in
theorem am_k_Model_boundedNow : ∀ pc, pc < 161 → am_chk 11 prog_13_method_56_code pc (am_i_Model_boundedNow pc) = true := by decide +kernel
set_option maxRecDepth 20000 in
theorem am_q_Model_boundedNow : am_mok am_m_Model_boundedNow := ⟨am_chk_of am_k_Model_boundedNow (fun pc h => by show am_i_Model_boundedNow pc = none; unfold am_i_Model_boundedNow; rw [h]; rfl), by decide +kernel, fun _ => am_in6 (List.mem_of_getElem? (i := 95) rfl)⟩
set_option maxRecDepth 20000 in
theorem am_k_Model_bounds : ∀ pc, pc < 127 → am_chk 11 prog_13_method_55_code pc (am_i_Model_bounds pc) = true := by decide +kernel
set_option maxRecDepth 20000 in
theorem am_q_Model_bounds : am_mok am_m_Model_bounds := ⟨am_chk_of am_k_Model_bounds (fun pc h => by show am_i_Model_bounds pc = none; unfold am_i_Model_bounds; rw [h]; rfl), by decide +kernel, fun _ => am_in6 (List.mem_of_getElem? (i := 99) rfl)⟩
set_option maxRecDepth 20000 in
theorem am_k_Model_behindOne : ∀ pc, pc < 89 → am_chk 11 prog_13_method_54_code pc (am_i_Model_behindOne pc) = true := by decide +kernel
set_option maxRecDepth 20000 in
theorem am_q_Model_behindOne : am_mok am_m_Model_behindOne := ⟨am_chk_of am_k_Model_behindOne (fun pc h => by show am_i_Model_behindOne pc = none; unfold am_i_Model_behindOne; rw [h]; rfl), by decide +kernel, fun _ => am_in6 (List.mem_of_getElem? (i := 103) rfl)⟩
set_option maxRecDepth 20000 in
theorem am_k_Model_rule : ∀ pc, pc < 77 → am_chk 11 prog_13_method_61_code pc (am_i_Model_rule pc) = true := by decide +kernel
set_option maxRecDepth 20000 in
theorem am_q_Model_rule : am_mok am_m_Model_rule := ⟨am_chk_of am_k_Model_rule (fun pc h => by show am_i_Model_rule pc = none; unfold am_i_Model_rule; rw [h]; rfl), by decide +kernel, fun _ => am_in6 (List.mem_of_getElem? (i := 107) rfl)⟩
set_option maxRecDepth 20000 in
theorem am_k_Model_rules : ∀ pc, pc < 113 → am_chk 11 prog_13_method_60_code pc (am_i_Model_rules pc) = true := by decide +kernel
set_option maxRecDepth 20000 in
theorem am_q_Model_rules : am_mok am_m_Model_rules := ⟨am_chk_of am_k_Model_rules (fun pc h => by show am_i_Model_rules pc = none; unfold am_i_Model_rules; rw [h]; rfl), by decide +kernel, fun _ => am_in6 (List.mem_of_getElem? (i := 112) rfl)⟩
set_option maxRecDepth 20000 in
theorem am_k_Model_nextDemand : ∀ pc, pc < 27 → am_chk 11 prog_13_method_58_code pc (am_i_Model_nextDemand pc) = true := by decide +kernel
set_option maxRecDepth 20000 in
theorem am_q_Model_nextDemand : am_mok am_m_Model_nextDemand := ⟨am_chk_of am_k_Model_nextDemand (fun pc h => by show am_i_Model_nextDemand pc = none; unfold am_i_Model_nextDemand; rw [h]; rfl), by decide +kernel, fun _ => am_in6 (List.mem_of_getElem? (i := 116) rfl)⟩
set_option maxRecDepth 20000 in
theorem am_k_Model_takesNext : ∀ pc, pc < 147 → am_chk 11 prog_13_method_59_code pc (am_i_Model_takesNext pc) = true := by decide +kernel
set_option maxRecDepth 20000 in
theorem am_q_Model_takesNext : am_mok am_m_Model_takesNext := ⟨am_chk_of am_k_Model_takesNext (fun pc h => by show am_i_Model_takesNext pc = none; unfold am_i_Model_takesNext; rw [h]; rfl), by decide +kernel, fun _ => am_in6 (List.mem_of_getElem? (i := 120) rfl)⟩
set_option maxRecDepth 20000 in
theorem am_k_Model_thumb : ∀ pc, pc < 85 → am_chk 11 prog_13_method_62_code pc (am_i_Model_thumb pc) = true := by decide +kernel
set_option maxRecDepth 20000 in
theorem am_q_Model_thumb : am_mok am_m_Model_thumb := ⟨am_chk_of am_k_Model_thumb (fun pc h => by show am_i_Model_thumb pc = none; unfold am_i_Model_thumb; rw [h]; rfl), by decide +kernel, fun _ => am_in6 (List.mem_of_getElem? (i := 124) rfl)⟩
set_option maxRecDepth 20000 in
theorem am_k_Model_more : ∀ pc, pc < 67 → am_chk 11 prog_13_method_63_code pc (am_i_Model_more pc) = true := by decide +kernel
set_option maxRecDepth 20000 in
theorem am_q_Model_more : am_mok am_m_Model_more := ⟨am_chk_of am_k_Model_more (fun pc h => by show am_i_Model_more pc = none; unfold am_i_Model_more; rw [h]; rfl), by decide +kernel, fun _ => am_in6 (List.mem_of_getElem? (i := 128) rfl)⟩
set_option maxRecDepth 20000 in
theorem am_k_Model_keeps : ∀ pc, pc < 76 → am_chk 11 prog_13_method_65_code pc (am_i_Model_keeps pc) = true := by decide +kernel
set_option maxRecDepth 20000 in
theorem am_q_Model_keeps : am_mok am_m_Model_keeps := ⟨am_chk_of am_k_Model_keeps (fun pc h => by show am_i_Model_keeps pc = none; unfold am_i_Model_keeps; rw [h]; rfl), by decide +kernel, fun _ => am_in6 (List.mem_of_getElem? (i := 132) rfl)⟩
set_option maxRecDepth 20000 in
theorem am_k_Model_doesMakeBy : ∀ pc, pc < 47 → am_chk 11 prog_13_method_64_code pc (am_i_Model_doesMakeBy pc) = true := by decide +kernel
set_option maxRecDepth 20000 in
theorem am_q_Model_doesMakeBy : am_mok am_m_Model_doesMakeBy := ⟨am_chk_of am_k_Model_doesMakeBy (fun pc h => by show am_i_Model_doesMakeBy pc = none; unfold am_i_Model_doesMakeBy; rw [h]; rfl), by decide +kernel, fun _ => am_in6 (List.mem_of_getElem? (i := 136) rfl)⟩
set_option maxRecDepth 20000 in
theorem am_k_Model_touched : ∀ pc, pc < 172 → am_chk 11 prog_13_method_66_code pc (am_i_Model_touched pc) = true := by decide +kernel
set_option maxRecDepth 20000 in
theorem am_q_Model_touched : am_mok am_m_Model_touched := ⟨am_chk_of am_k_Model_touched (fun pc h => by show am_i_Model_touched pc = none; unfold am_i_Model_touched; rw [h]; rfl), by decide +kernel, fun _ => am_in6 (List.mem_of_getElem? (i := 140) rfl)⟩
set_option maxRecDepth 20000 in
theorem am_k_Model_hand : ∀ pc, pc < 38 → am_chk 11 prog_13_method_67_code pc (am_i_Model_hand pc) = true := by decide +kernel
set_option maxRecDepth 20000 in
theorem am_q_Model_hand : am_mok am_m_Model_hand := ⟨am_chk_of am_k_Model_hand (fun pc h => by show am_i_Model_hand pc = none; unfold am_i_Model_hand; rw [h]; rfl), by decide +kernel, fun _ => am_in6 (List.mem_of_getElem? (i := 144) rfl)⟩
set_option maxRecDepth 20000 in
theorem am_k_Model_handAs : ∀ pc, pc < 64 → am_chk 11 prog_13_method_70_code pc (am_i_Model_handAs pc) = true := by decide +kernel
set_option maxRecDepth 20000 in
theorem am_q_Model_handAs : am_mok am_m_Model_handAs := ⟨am_chk_of am_k_Model_handAs (fun pc h => by show am_i_Model_handAs pc = none; unfold am_i_Model_handAs; rw [h]; rfl), by decide +kernel, fun _ => am_in6 (List.mem_of_getElem? (i := 148) rfl)⟩
set_option maxRecDepth 20000 in
theorem am_k_Model_noHands : ∀ pc, pc < 25 → am_chk 11 prog_13_method_69_code pc (am_i_Model_noHands pc) = true := by decide +kernel
set_option maxRecDepth 20000 in
theorem am_q_Model_noHands : am_mok am_m_Model_noHands := ⟨am_chk_of am_k_Model_noHands (fun pc h => by show am_i_Model_noHands pc = none; unfold am_i_Model_noHands; rw [h]; rfl), by decide +kernel, fun _ => am_in6 (List.mem_of_getElem? (i := 152) rfl)⟩
set_option maxRecDepth 20000 in
theorem am_k_Model_hands : ∀ pc, pc < 35 → am_chk 11 prog_13_method_68_code pc (am_i_Model_hands pc) = true := by decide +kernel
set_option maxRecDepth 20000 in
theorem am_q_Model_hands : am_mok am_m_Model_hands := ⟨am_chk_of am_k_Model_hands (fun pc h => by show am_i_Model_hands pc = none; unfold am_i_Model_hands; rw [h]; rfl), by decide +kernel, fun _ => am_in6 (List.mem_of_getElem? (i := 156) rfl)⟩
set_option maxRecDepth 20000 in
theorem am_k_Model_judged : ∀ pc, pc < 54 → am_chk 11 prog_13_method_73_code pc (am_i_Model_judged pc) = true := by decide +kernel
set_option maxRecDepth 20000 in
theorem am_q_Model_judged : am_mok am_m_Model_judged := ⟨am_chk_of am_k_Model_judged (fun pc h => by show am_i_Model_judged pc = none; unfold am_i_Model_judged; rw [h]; rfl), by decide +kernel, fun _ => am_in6 (List.mem_of_getElem? (i := 160) rfl)⟩
set_option maxRecDepth 20000 in
theorem am_k_Model_handCost : ∀ pc, pc < 93 → am_chk 11 prog_13_method_71_code pc (am_i_Model_handCost pc) = true := by decide +kernel
set_option maxRecDepth 20000 in
theorem am_q_Model_handCost : am_mok am_m_Model_handCost := ⟨am_chk_of am_k_Model_handCost (fun pc h => by show am_i_Model_handCost pc = none; unfold am_i_Model_handCost; rw [h]; rfl), by decide +kernel, fun _ => am_in6 (List.mem_of_getElem? (i := 164) rfl)⟩
set_option maxRecDepth 20000 in
theorem am_k_Model_wrong : ∀ pc, pc < 82 → am_chk 11 prog_13_method_72_code pc (am_i_Model_wrong pc) = true := by decide +kernel
set_option maxRecDepth 20000 in
theorem am_q_Model_wrong : am_mok am_m_Model_wrong := ⟨am_chk_of am_k_Model_wrong (fun pc h => by show am_i_Model_wrong pc = none; unfold am_i_Model_wrong; rw [h]; rfl), by decide +kernel, fun _ => am_in6 (List.mem_of_getElem? (i := 168) rfl)⟩
set_option maxRecDepth 20000 in
theorem am_k_Model_print : ∀ pc, pc < 42 → am_chk 11 prog_13_method_77_code pc (am_i_Model_print pc) = true := by decide +kernel
set_option maxRecDepth 20000 in
theorem am_q_Model_print : am_mok am_m_Model_print := ⟨am_chk_of am_k_Model_print (fun pc h => by show am_i_Model_print pc = none; unfold am_i_Model_print; rw [h]; rfl), by decide +kernel, fun _ => am_in6 (List.mem_of_getElem? (i := 172) rfl)⟩
set_option maxRecDepth 20000 in
theorem am_k_Model_prints : ∀ pc, pc < 105 → am_chk 11 prog_13_method_76_code pc (am_i_Model_prints pc) = true := by decide +kernel
set_option maxRecDepth 20000 in
theorem am_q_Model_prints : am_mok am_m_Model_prints := ⟨am_chk_of am_k_Model_prints (fun pc h => by show am_i_Model_prints pc = none; unfold am_i_Model_prints; rw [h]; rfl), by decide +kernel, fun _ => am_in6 (List.mem_of_getElem? (i := 176) rfl)⟩
set_option maxRecDepth 20000 in
theorem am_k_Model_says : ∀ pc, pc < 21 → am_chk 11 prog_13_method_74_code pc (am_i_Model_says pc) = true := by decide +kernel
set_option maxRecDepth 20000 in
theorem am_q_Model_says : am_mok am_m_Model_says := ⟨am_chk_of am_k_Model_says (fun pc h => by show am_i_Model_says pc = none; unfold am_i_Model_says; rw [h]; rfl), by decide +kernel, fun _ => am_in6 (List.mem_of_getElem? (i := 180) rfl)⟩
set_option maxRecDepth 20000 in
theorem am_k_Model_saysNumber : ∀ pc, pc < 26 → am_chk 11 prog_13_method_75_code pc (am_i_Model_saysNumber pc) = true := by decide +kernel
set_option maxRecDepth 20000 in
theorem am_q_Model_saysNumber : am_mok am_m_Model_saysNumber := ⟨am_chk_of am_k_Model_saysNumber (fun pc h => by show am_i_Model_saysNumber pc = none; unfold am_i_Model_saysNumber; rw [h]; rfl), by decide +kernel, fun _ => am_in6 (List.mem_of_getElem? (i := 184) rfl)⟩
set_option maxRecDepth 20000 in
theorem am_k_Model_row : ∀ pc, pc < 57 → am_chk 11 prog_13_method_79_code pc (am_i_Model_row pc) = true := by decide +kernel
set_option maxRecDepth 20000 in
theorem am_q_Model_row : am_mok am_m_Model_row := ⟨am_chk_of am_k_Model_row (fun pc h => by show am_i_Model_row pc = none; unfold am_i_Model_row; rw [h]; rfl), by decide +kernel, fun _ => am_in6 (List.mem_of_getElem? (i := 188) rfl)⟩
set_option maxRecDepth 20000 in
theorem am_k_Model_isShelf : ∀ pc, pc < 10 → am_chk 11 prog_13_method_78_code pc (am_i_Model_isShelf pc) = true := by decide +kernel
set_option maxRecDepth 20000 in
theorem am_q_Model_isShelf : am_mok am_m_Model_isShelf := ⟨am_chk_of am_k_Model_isShelf (fun pc h => by show am_i_Model_isShelf pc = none; unfold am_i_Model_isShelf; rw [h]; rfl), by decide +kernel, fun _ => am_in6 (List.mem_of_getElem? (i := 191) rfl)⟩
set_option maxRecDepth 20000 in
theorem am_k_Model_put : ∀ pc, pc < 56 → am_chk 11 prog_13_method_80_code pc (am_i_Model_put pc) = true := by decide +kernel
set_option maxRecDepth 20000 in
theorem am_q_Model_put : am_mok am_m_Model_put := ⟨am_chk_of am_k_Model_put (fun pc h => by show am_i_Model_put pc = none; unfold am_i_Model_put; rw [h]; rfl), by decide +kernel, fun _ => am_in6 (List.mem_of_getElem? (i := 195) rfl)⟩
set_option maxRecDepth 20000 in
theorem am_k_Model_get : ∀ pc, pc < 43 → am_chk 11 prog_13_method_81_code pc (am_i_Model_get pc) = true := by decide +kernel
set_option maxRecDepth 20000 in
theorem am_q_Model_get : am_mok am_m_Model_get := ⟨am_chk_of am_k_Model_get (fun pc h => by show am_i_Model_get pc = none; unfold am_i_Model_get; rw [h]; rfl), by decide +kernel, fun _ => am_in6 (List.mem_of_getElem? (i := 199) rfl)⟩
set_option maxRecDepth 20000 in
theorem am_k_Model_from : ∀ pc, pc < 121 → am_chk 11 prog_13_method_83_code pc (am_i_Model_from pc) = true := by decide +kernel
set_option maxRecDepth 20000 in
theorem am_q_Model_from : am_mok am_m_Model_from := ⟨am_chk_of am_k_Model_from (fun pc h => by show am_i_Model_from pc = none; unfold am_i_Model_from; rw [h]; rfl), by decide +kernel, fun _ => am_in6 (List.mem_of_getElem? (i := 204) rfl)⟩
set_option maxRecDepth 20000 in
theorem am_k_Model_wrongRow : ∀ pc, pc < 25 → am_chk 11 prog_13_method_82_code pc (am_i_Model_wrongRow pc) = true := by decide +kernel
set_option maxRecDepth 20000 in
theorem am_q_Model_wrongRow : am_mok am_m_Model_wrongRow := ⟨am_chk_of am_k_Model_wrongRow (fun pc h => by show am_i_Model_wrongRow pc = none; unfold am_i_Model_wrongRow; rw [h]; rfl), by decide +kernel, fun _ => am_in6 (List.mem_of_getElem? (i := 208) rfl)⟩
set_option maxRecDepth 20000 in
theorem am_k_Model_into : ∀ pc, pc < 137 → am_chk 11 prog_13_method_84_code pc (am_i_Model_into pc) = true := by decide +kernel
set_option maxRecDepth 20000 in
theorem am_q_Model_into : am_mok am_m_Model_into := ⟨am_chk_of am_k_Model_into (fun pc h => by show am_i_Model_into pc = none; unfold am_i_Model_into; rw [h]; rfl), by decide +kernel, fun _ => am_in6 (List.mem_of_getElem? (i := 212) rfl)⟩
set_option maxRecDepth 20000 in
theorem am_k_Model_image : ∀ pc, pc < 65 → am_chk 11 prog_13_method_85_code pc (am_i_Model_image pc) = true := by decide +kernel
set_option maxRecDepth 20000 in
theorem am_q_Model_image : am_mok am_m_Model_image := ⟨am_chk_of am_k_Model_image (fun pc h => by show am_i_Model_image pc = none; unfold am_i_Model_image; rw [h]; rfl), by decide +kernel, fun _ => am_in6 (List.mem_of_getElem? (i := 216) rfl)⟩
set_option maxRecDepth 20000 in
theorem am_k_Model_back : ∀ pc, pc < 79 → am_chk 11 prog_13_method_86_code pc (am_i_Model_back pc) = true := by decide +kernel
set_option maxRecDepth 20000 in
theorem am_q_Model_back : am_mok am_m_Model_back := ⟨am_chk_of am_k_Model_back (fun pc h => by show am_i_Model_back pc = none; unfold am_i_Model_back; rw [h]; rfl), by decide +kernel, fun _ => am_in6 (List.mem_of_getElem? (i := 220) rfl)⟩
set_option maxRecDepth 20000 in
theorem am_k_Model_count : ∀ pc, pc < 99 → am_chk 11 prog_13_method_87_code pc (am_i_Model_count pc) = true := by decide +kernel
set_option maxRecDepth 20000 in
theorem am_q_Model_count : am_mok am_m_Model_count := ⟨am_chk_of am_k_Model_count (fun pc h => by show am_i_Model_count pc = none; unfold am_i_Model_count; rw [h]; rfl), by decide +kernel, fun _ => am_in6 (List.mem_of_getElem? (i := 224) rfl)⟩
set_option maxRecDepth 20000 in
theorem am_k_String_length : ∀ pc, pc < 11 → am_chk 14 prog_15_method_54_code pc (am_i_String_length pc) = true := by decide +kernel
set_option maxRecDepth 20000 in
theorem am_q_String_length : am_mok am_m_String_length := ⟨am_chk_of am_k_String_length (fun pc h => by show am_i_String_length pc = none; unfold am_i_String_length; rw [h]; rfl), by decide +kernel, fun _ => am_in2 (List.mem_of_getElem? (i := 194) rfl)⟩
set_option maxRecDepth 20000 in
theorem am_k_String_coder : ∀ pc, pc < 15 → am_chk 14 prog_15_method_152_code pc (am_i_String_coder pc) = true := by decide +kernel
set_option maxRecDepth 20000 in
theorem am_q_String_coder : am_mok am_m_String_coder := ⟨am_chk_of am_k_String_coder (fun pc h => by show am_i_String_coder pc = none; unfold am_i_String_coder; rw [h]; rfl), by decide +kernel, fun _ => am_in2 (List.mem_of_getElem? (i := 198) rfl)⟩
set_option maxRecDepth 20000 in
theorem am_k_String_charAt : ∀ pc, pc < 25 → am_chk 14 prog_15_method_56_code pc (am_i_String_charAt pc) = true := by decide +kernel
set_option maxRecDepth 20000 in
theorem am_q_String_charAt : am_mok am_m_String_charAt := ⟨am_chk_of am_k_String_charAt (fun pc h => by show am_i_String_charAt pc = none; unfold am_i_String_charAt; rw [h]; rfl), by decide +kernel, fun _ => am_in2 (List.mem_of_getElem? (i := 204) rfl)⟩
set_option maxRecDepth 20000 in
theorem am_k_String_isLatin1 : ∀ pc, pc < 19 → am_chk 14 prog_15_method_154_code pc (am_i_String_isLatin1 pc) = true := by decide +kernel
set_option maxRecDepth 20000 in
theorem am_q_String_isLatin1 : am_mok am_m_String_isLatin1 := ⟨am_chk_of am_k_String_isLatin1 (fun pc h => by show am_i_String_isLatin1 pc = none; unfold am_i_String_isLatin1; rw [h]; rfl), by decide +kernel, fun _ => am_in2 (List.mem_of_getElem? (i := 208) rfl)⟩
set_option maxRecDepth 20000 in
theorem am_k_String_checkIndex : ∀ pc, pc < 10 → am_chk 14 prog_15_method_155_code pc (am_i_String_checkIndex pc) = true := by decide +kernel
set_option maxRecDepth 20000 in
theorem am_q_String_checkIndex : am_mok am_m_String_checkIndex := ⟨am_chk_of am_k_String_checkIndex (fun pc h => by show am_i_String_checkIndex pc = none; unfold am_i_String_checkIndex; rw [h]; rfl), by decide +kernel, fun _ => am_in2 (List.mem_of_getElem? (i := 214) rfl)⟩
set_option maxRecDepth 20000 in
theorem am_k_StringLatin1_charAt : ∀ pc, pc < 15 → am_chk 15 prog_16_method_2_code pc (am_i_StringLatin1_charAt pc) = true := by decide +kernel
set_option maxRecDepth 20000 in
theorem am_q_StringLatin1_charAt : am_mok am_m_StringLatin1_charAt := ⟨am_chk_of am_k_StringLatin1_charAt (fun pc h => by show am_i_StringLatin1_charAt pc = none; unfold am_i_StringLatin1_charAt; rw [h]; rfl), by decide +kernel, fun _ => am_in2 (List.mem_of_getElem? (i := 211) rfl)⟩
set_option maxRecDepth 20000 in
theorem am_k_Preconditions_checkIndex : ∀ pc, pc < 18 → am_chk 16 prog_18_method_11_code pc (am_i_Preconditions_checkIndex pc) = true := by decide +kernel
set_option maxRecDepth 20000 in
theorem am_q_Preconditions_checkIndex : am_mok am_m_Preconditions_checkIndex := ⟨am_chk_of am_k_Preconditions_checkIndex (fun pc h => by show am_i_Preconditions_checkIndex pc = none; unfold am_i_Preconditions_checkIndex; rw [h]; rfl), by decide +kernel, fun _ => am_in2 (List.mem_of_getElem? (i := 219) rfl)⟩
set_option maxRecDepth 20000 in
theorem am_k_Law_law_0 : ∀ pc, pc < 48 → am_chk 12 code (0 + pc) (am_i_Law_law (0 + pc)) = true := by decide +kernel
set_option maxRecDepth 20000 in
theorem am_k_Law_law_48 : ∀ pc, pc < 48 → am_chk 12 code (48 + pc) (am_i_Law_law (48 + pc)) = true := by decide +kernel
set_option maxRecDepth 20000 in
theorem am_k_Law_law_96 : ∀ pc, pc < 48 → am_chk 12 code (96 + pc) (am_i_Law_law (96 + pc)) = true := by decide +kernel
set_option maxRecDepth 20000 in
theorem am_k_Law_law_144 : ∀ pc, pc < 48 → am_chk 12 code (144 + pc) (am_i_Law_law (144 + pc)) = true := by decide +kernel
set_option maxRecDepth 20000 in
theorem am_k_Law_law_192 : ∀ pc, pc < 48 → am_chk 12 code (192 + pc) (am_i_Law_law (192 + pc)) = true := by decide +kernel
set_option maxRecDepth 20000 in
theorem am_k_Law_law_240 : ∀ pc, pc < 48 → am_chk 12 code (240 + pc) (am_i_Law_law (240 + pc)) = true := by decide +kernel
set_option maxRecDepth 20000 in
theorem am_k_Law_law_288 : ∀ pc, pc < 48 → am_chk 12 code (288 + pc) (am_i_Law_law (288 + pc)) = true := by decide +kernel
set_option maxRecDepth 20000 in
theorem am_k_Law_law_336 : ∀ pc, pc < 48 → am_chk 12 code (336 + pc) (am_i_Law_law (336 + pc)) = true := by decide +kernel
set_option maxRecDepth 20000 in
theorem am_k_Law_law_384 : ∀ pc, pc < 48 → am_chk 12 code (384 + pc) (am_i_Law_law (384 + pc)) = true := by decide +kernel
set_option maxRecDepth 20000 in
theorem am_k_Law_law_432 : ∀ pc, pc < 48 → am_chk 12 code (432 + pc) (am_i_Law_law (432 + pc)) = true := by decide +kernel
set_option maxRecDepth 20000 in
theorem am_k_Law_law_480 : ∀ pc, pc < 48 → am_chk 12 code (480 + pc) (am_i_Law_law (480 + pc)) = true := by decide +kernel
set_option maxRecDepth 20000 in
theorem am_k_Law_law_528 : ∀ pc, pc < 48 → am_chk 12 code (528 + pc) (am_i_Law_law (528 + pc)) = true := by decide +kernel
set_option maxRecDepth 20000 in
theorem am_k_Law_law_576 : ∀ pc, pc < 48 → am_chk 12 code (576 + pc) (am_i_Law_law (576 + pc)) = true := by decide +kernel
set_option maxRecDepth 20000 in
theorem am_k_Law_law_624 : ∀ pc, pc < 48 → am_chk 12 code (624 + pc) (am_i_Law_law (624 + pc)) = true := by decide +kernel
set_option maxRecDepth 20000 in
theorem am_k_Law_law_672 : ∀ pc, pc < 48 → am_chk 12 code (672 + pc) (am_i_Law_law (672 + pc)) = true := by decide +kernel
set_option maxRecDepth 20000 in
theorem am_k_Law_law_720 : ∀ pc, pc < 48 → am_chk 12 code (720 + pc) (am_i_Law_law (720 + pc)) = true := by decide +kernel
set_option maxRecDepth 20000 in
theorem am_k_Law_law_768 : ∀ pc, pc < 48 → am_chk 12 code (768 + pc) (am_i_Law_law (768 + pc)) = true := by decide +kernel
set_option maxRecDepth 20000 in
theorem am_k_Law_law_816 : ∀ pc, pc < 48 → am_chk 12 code (816 + pc) (am_i_Law_law (816 + pc)) = true := by decide +kernel
set_option maxRecDepth 20000 in
theorem am_k_Law_law_864 : ∀ pc, pc < 48 → am_chk 12 code (864 + pc) (am_i_Law_law (864 + pc)) = true := by decide +kernel
set_option maxRecDepth 20000 in
theorem am_k_Law_law_912 : ∀ pc, pc < 48 → am_chk 12 code (912 + pc) (am_i_Law_law (912 + pc)) = true := by decide +kernel
set_option maxRecDepth 20000 in
theorem am_k_Law_law_960 : ∀ pc, pc < 48 → am_chk 12 code (960 + pc) (am_i_Law_law (960 + pc)) = true := by decide +kernel
set_option maxRecDepth 20000 in
theorem am_k_Law_law_1008 : ∀ pc, pc < 48 → am_chk 12 code (1008 + pc) (am_i_Law_law (1008 + pc)) = true := by decide +kernel
set_option maxRecDepth 20000 in
theorem am_k_Law_law_1056 : ∀ pc, pc < 48 → am_chk 12 code (1056 + pc) (am_i_Law_law (1056 + pc)) = true := by decide +kernel
set_option maxRecDepth 20000 in
theorem am_k_Law_law_1104 : ∀ pc, pc < 48 → am_chk 12 code (1104 + pc) (am_i_Law_law (1104 + pc)) = true := by decide +kernel
set_option maxRecDepth 20000 in
theorem am_k_Law_law_1152 : ∀ pc, pc < 3 → am_chk 12 code (1152 + pc) (am_i_Law_law (1152 + pc)) = true := by decide +kernel
theorem am_k_Law_law : ∀ pc, pc < 1155 → am_chk 12 code pc (am_i_Law_law pc) = true := by
  intro pc h
  rcases Nat.lt_or_ge pc 48 with q | q
  · have := am_k_Law_law_0 (pc - 0) (by omega)
    rwa [Nat.add_sub_cancel' (by omega)] at this
  rcases Nat.lt_or_ge pc 96 with q | q
  · have := am_k_Law_law_48 (pc - 48) (by omega)
    rwa [Nat.add_sub_cancel' (by omega)] at this
  rcases Nat.lt_or_ge pc 144 with q | q
  · have := am_k_Law_law_96 (pc - 96) (by omega)
    rwa [Nat.add_sub_cancel' (by omega)] at this
  rcases Nat.lt_or_ge pc 192 with q | q
  · have := am_k_Law_law_144 (pc - 144) (by omega)
    rwa [Nat.add_sub_cancel' (by omega)] at this
  rcases Nat.lt_or_ge pc 240 with q | q
  · have := am_k_Law_law_192 (pc - 192) (by omega)
    rwa [Nat.add_sub_cancel' (by omega)] at this
  rcases Nat.lt_or_ge pc 288 with q | q
  · have := am_k_Law_law_240 (pc - 240) (by omega)
    rwa [Nat.add_sub_cancel' (by omega)] at this
  rcases Nat.lt_or_ge pc 336 with q | q
  · have := am_k_Law_law_288 (pc - 288) (by omega)
    rwa [Nat.add_sub_cancel' (by omega)] at this
  rcases Nat.lt_or_ge pc 384 with q | q
  · have := am_k_Law_law_336 (pc - 336) (by omega)
    rwa [Nat.add_sub_cancel' (by omega)] at this
  rcases Nat.lt_or_ge pc 432 with q | q
  · have := am_k_Law_law_384 (pc - 384) (by omega)
    rwa [Nat.add_sub_cancel' (by omega)] at this
  rcases Nat.lt_or_ge pc 480 with q | q
  · have := am_k_Law_law_432 (pc - 432) (by omega)
    rwa [Nat.add_sub_cancel' (by omega)] at this
  rcases Nat.lt_or_ge pc 528 with q | q
  · have := am_k_Law_law_480 (pc - 480) (by omega)
    rwa [Nat.add_sub_cancel' (by omega)] at this
  rcases Nat.lt_or_ge pc 576 with q | q
  · have := am_k_Law_law_528 (pc - 528) (by omega)
    rwa [Nat.add_sub_cancel' (by omega)] at this
  rcases Nat.lt_or_ge pc 624 with q | q
  · have := am_k_Law_law_576 (pc - 576) (by omega)
    rwa [Nat.add_sub_cancel' (by omega)] at this
  rcases Nat.lt_or_ge pc 672 with q | q
  · have := am_k_Law_law_624 (pc - 624) (by omega)
    rwa [Nat.add_sub_cancel' (by omega)] at this
  rcases Nat.lt_or_ge pc 720 with q | q
  · have := am_k_Law_law_672 (pc - 672) (by omega)
    rwa [Nat.add_sub_cancel' (by omega)] at this
  rcases Nat.lt_or_ge pc 768 with q | q
  · have := am_k_Law_law_720 (pc - 720) (by omega)
    rwa [Nat.add_sub_cancel' (by omega)] at this
  rcases Nat.lt_or_ge pc 816 with q | q
  · have := am_k_Law_law_768 (pc - 768) (by omega)
    rwa [Nat.add_sub_cancel' (by omega)] at this
  rcases Nat.lt_or_ge pc 864 with q | q
  · have := am_k_Law_law_816 (pc - 816) (by omega)
    rwa [Nat.add_sub_cancel' (by omega)] at this
  rcases Nat.lt_or_ge pc 912 with q | q
  · have := am_k_Law_law_864 (pc - 864) (by omega)
    rwa [Nat.add_sub_cancel' (by omega)] at this
  rcases Nat.lt_or_ge pc 960 with q | q
  · have := am_k_Law_law_912 (pc - 912) (by omega)
    rwa [Nat.add_sub_cancel' (by omega)] at this
  rcases Nat.lt_or_ge pc 1008 with q | q
  · have := am_k_Law_law_960 (pc - 960) (by omega)
    rwa [Nat.add_sub_cancel' (by omega)] at this
  rcases Nat.lt_or_ge pc 1056 with q | q
  · have := am_k_Law_law_1008 (pc - 1008) (by omega)
    rwa [Nat.add_sub_cancel' (by omega)] at this
  rcases Nat.lt_or_ge pc 1104 with q | q
  · have := am_k_Law_law_1056 (pc - 1056) (by omega)
    rwa [Nat.add_sub_cancel' (by omega)] at this
  rcases Nat.lt_or_ge pc 1152 with q | q
  · have := am_k_Law_law_1104 (pc - 1104) (by omega)
    rwa [Nat.add_sub_cancel' (by omega)] at this
  rcases Nat.lt_or_ge pc 1155 with q | q
  · have := am_k_Law_law_1152 (pc - 1152) (by omega)
    rwa [Nat.add_sub_cancel' (by omega)] at this
  · omega
set_option maxRecDepth 20000 in
theorem am_q_Law_law : am_mok am_m_Law_law := ⟨am_chk_of am_k_Law_law (fun pc h => by show am_i_Law_law pc = none; unfold am_i_Law_law; rw [h]; rfl), by decide +kernel, fun h => absurd rfl h⟩
theorem am_meth_ok (M : Nat) : am_mok (am_meth M) := (am_cond (am_cond (am_cond (am_cond (am_cond (am_cond (am_cond am_q_Bounded_init (am_cond am_q_Bounded_refresh am_q_Bounded_reckonAfter)) (am_cond (am_cond am_q_Bounded_leastFrom am_q_Bounded_mostBehind) (am_cond am_q_Bounded_cost am_q_Bounded_takeMade))) (am_cond (am_cond (am_cond am_q_Bounded_firstOfLeast am_q_Bounded_state) (am_cond am_q_Bounded_made am_q_ByHand_init)) (am_cond (am_cond am_q_ByHand_keepFirst am_q_ByHand_made) (am_cond am_q_ByHand_make am_q_ByHand_pieces)))) (am_cond (am_cond (am_cond am_q_ByHand_cost (am_cond am_q_ByHand_wrong am_q_ByHand_stockBehind)) (am_cond (am_cond am_q_ByHand_becomeLike am_q_ByRule_init) (am_cond am_q_ByRule_reckon am_q_ByRule_demandFrom))) (am_cond (am_cond (am_cond am_q_ByRule_endOf am_q_ByRule_endByMean) (am_cond am_q_ByRule_meanGrows am_q_ByRule_held)) (am_cond (am_cond am_q_ByRule_endByParts am_q_ByRule_cost) (am_cond am_q_ByRule_lots am_q_ByRule_begins))))) (am_cond (am_cond (am_cond (am_cond am_q_Changes_init (am_cond am_q_Changes_begin am_q_Changes_note)) (am_cond (am_cond am_q_Changes_forgetFirst am_q_Changes_goBack) (am_cond am_q_Changes_behind am_q_Changes_goOn))) (am_cond (am_cond (am_cond am_q_Changes_ahead am_q_Lots_init) (am_cond am_q_Lots_reckon am_q_Lots_pieces)) (am_cond (am_cond am_q_Lots_reckonMadeIn am_q_Lots_offer) (am_cond am_q_Lots_costOf am_q_Lots_waysOf)))) (am_cond (am_cond (am_cond am_q_Lots_makerOf (am_cond am_q_Numbers_init am_q_Numbers_beAsAtFirst)) (am_cond (am_cond am_q_Numbers_size am_q_Numbers_resize) (am_cond am_q_Numbers_has am_q_Numbers_copyTo))) (am_cond (am_cond (am_cond am_q_Numbers_value am_q_Numbers_become) (am_cond am_q_Numbers_store am_q_Numbers_lateMayBe)) (am_cond (am_cond am_q_Numbers_storeBecomes am_q_Numbers_lateMayBeBecomes) (am_cond am_q_Numbers_becomeLike am_q_Numbers_stamp)))))) (am_cond (am_cond (am_cond (am_cond (am_cond am_q_Numbers_areCalm (am_cond am_q_Numbers_pieces am_q_Numbers_stockCost)) (am_cond (am_cond am_q_Numbers_copyFrom am_q_Plan_init) (am_cond am_q_Plan_refresh am_q_Plan_partCost))) (am_cond (am_cond (am_cond am_q_Plan_reckonPart am_q_Plan_takeLots) (am_cond am_q_Plan_reckonForward am_q_Plan_cost)) (am_cond (am_cond am_q_Plan_lots am_q_Plan_ofLot) (am_cond am_q_Plan_made am_q_Plan_stock)))) (am_cond (am_cond (am_cond am_q_Plan_forwardCost (am_cond am_q_Plan_lastBegin am_q_Plan_howMany)) (am_cond (am_cond am_q_Printed_init am_q_Printed_write) (am_cond am_q_Printed_add am_q_Printed_addNumber))) (am_cond (am_cond (am_cond am_q_Printed_length am_q_Printed_sign) (am_cond am_q_Shelves_init am_q_Shelves_begin)) (am_cond (am_cond am_q_Shelves_store am_q_Shelves_placeOf) (am_cond am_q_Shelves_holds am_q_Shelves_hasPlace))))) (am_cond (am_cond (am_cond (am_cond am_q_Shelves_value (am_cond am_q_Text_init am_q_Text_take)) (am_cond (am_cond am_q_Text_length am_q_Text_tellTo) (am_cond am_q_Text_lookAtClause am_q_Text_lookAtWord))) (am_cond (am_cond (am_cond am_q_Text_signAt am_q_Text_wordOf) (am_cond am_q_Text_stands am_q_Text_lookAtBlank)) (am_cond (am_cond am_q_Text_lookAtPeriod am_q_Text_figures) (am_cond am_q_Text_lookAtNumber am_q_Text_tellClause)))) (am_cond (am_cond (am_cond (am_cond am_q_Text_clear am_q_Lp_init) (am_cond am_q_Lp_at am_q_Lp_lay)) (am_cond (am_cond am_q_Lp_periods am_q_Lp_tell) (am_cond am_q_Lp_mayBe am_q_Lp_inside))) (am_cond (am_cond (am_cond am_q_Lp_tellAll am_q_Lp_let) (am_cond am_q_Lp_of am_q_Lp_feed)) (am_cond (am_cond am_q_Lp_read am_q_Lp_least) (am_cond am_q_Lp_planNow am_q_Lp_lot))))))) (am_cond (am_cond (am_cond (am_cond (am_cond (am_cond am_q_Lp_by (am_cond am_q_Lp_forward am_q_Lp_calm)) (am_cond (am_cond am_q_Lp_part am_q_Lp_ways) (am_cond am_q_Lp_bounded am_q_Lp_rule))) (am_cond (am_cond (am_cond am_q_Lp_thumb am_q_Lp_more) (am_cond am_q_Lp_planWith am_q_Lp_keeps)) (am_cond (am_cond am_q_Lp_touched am_q_Lp_hand) (am_cond am_q_Lp_handAs am_q_Lp_judged)))) (am_cond (am_cond (am_cond am_q_Lp_print (am_cond am_q_Lp_row am_q_Lp_put)) (am_cond (am_cond am_q_Lp_get am_q_Lp_from) (am_cond am_q_Lp_into am_q_Lp_undo))) (am_cond (am_cond (am_cond am_q_Lp_redo am_q_Lp_image) (am_cond am_q_Lp_back am_q_Lp_count)) (am_cond (am_cond am_q_Model_init am_q_Model_fresh) (am_cond am_q_Model_noChanges am_q_Model_lies))))) (am_cond (am_cond (am_cond (am_cond am_q_Model_undo (am_cond am_q_Model_comesBack am_q_Model_redo)) (am_cond (am_cond am_q_Model_periods am_q_Model_isIn) (am_cond am_q_Model_tell am_q_Model_isPeriod))) (am_cond (am_cond (am_cond am_q_Model_isWhich am_q_Model_mayBe) (am_cond am_q_Model_num am_q_Model_changed)) (am_cond (am_cond am_q_Model_tellAll am_q_Model_let) (am_cond am_q_Model_of am_q_Model_feed)))) (am_cond (am_cond (am_cond am_q_Model_read (am_cond am_q_Model_clauses am_q_Model_isClause)) (am_cond (am_cond am_q_Model_which am_q_Model_here) (am_cond am_q_Model_isWord am_q_Model_fails))) (am_cond (am_cond (am_cond am_q_Model_isSign am_q_Model_periodHere) (am_cond am_q_Model_isFigure am_q_Model_isDigit)) (am_cond (am_cond am_q_Model_least am_q_Model_thePlan) (am_cond am_q_Model_plans am_q_Model_demand)))))) (am_cond (am_cond (am_cond (am_cond (am_cond am_q_Model_looks (am_cond am_q_Model_isLot am_q_Model_isLate)) (am_cond (am_cond am_q_Model_cost am_q_Model_held) (am_cond am_q_Model_owed am_q_Model_lot))) (am_cond (am_cond (am_cond am_q_Model_by am_q_Model_stock) (am_cond am_q_Model_forward am_q_Model_forwards)) (am_cond (am_cond am_q_Model_leastLot am_q_Model_forwardOf) (am_cond am_q_Model_lastOf am_q_Model_isCalm)))) (am_cond (am_cond (am_cond am_q_Model_calm (am_cond am_q_Model_part am_q_Model_ways)) (am_cond (am_cond am_q_Model_waysFrom am_q_Model_bounded) (am_cond am_q_Model_boundedNow am_q_Model_bounds))) (am_cond (am_cond (am_cond am_q_Model_behindOne am_q_Model_rule) (am_cond am_q_Model_rules am_q_Model_nextDemand)) (am_cond (am_cond am_q_Model_takesNext am_q_Model_thumb) (am_cond am_q_Model_more am_q_Model_keeps))))) (am_cond (am_cond (am_cond (am_cond am_q_Model_doesMakeBy (am_cond am_q_Model_touched am_q_Model_hand)) (am_cond (am_cond am_q_Model_handAs am_q_Model_noHands) (am_cond am_q_Model_hands am_q_Model_judged))) (am_cond (am_cond (am_cond am_q_Model_handCost am_q_Model_wrong) (am_cond am_q_Model_print am_q_Model_prints)) (am_cond (am_cond am_q_Model_says am_q_Model_saysNumber) (am_cond am_q_Model_row am_q_Model_isShelf)))) (am_cond (am_cond (am_cond (am_cond am_q_Model_put am_q_Model_get) (am_cond am_q_Model_from am_q_Model_wrongRow)) (am_cond (am_cond am_q_Model_into am_q_Model_image) (am_cond am_q_Model_back am_q_Model_count))) (am_cond (am_cond (am_cond am_q_String_length am_q_String_coder) (am_cond am_q_String_charAt am_q_String_isLatin1)) (am_cond (am_cond am_q_String_checkIndex am_q_StringLatin1_charAt) (am_cond am_q_Preconditions_checkIndex am_q_Law_law))))))))
