/-! WHAT A HEAP OF THE ABSTRACT MACHINE IS IN THE REAL ONE: its cell c lies at b + c -/
theorem am_gs_ok {o i : Nat} {v : Value} (h : am_gs o i = some v) : (o = 5 ∧ i = 26 ∧ v = .ref 1040) ∨ (o = 10 ∧ i = 216 ∧ v = .ref 1041) ∨ (o = 14 ∧ i = 38 ∧ v = .int 1) ∨ (o = 14 ∧ i = 1053 ∧ v = .ref 1060) := by
  unfold am_gs at h
  simp only [cond_eq_ite, Nat.beq_eq] at h
  (repeat' split at h) <;> first | (cases h; done) | (cases h; simp_all)
def am_cv (b : Nat) (sp : Nat → Option Nat) (v : Value) : Value := match v with
  | .ref c => bif Nat.blt c 1000 then .ref (b + c) else va_rf (sp c)
  | v => v
theorem am_rf_cat (r : Option Nat) : (va_rf r).category = 1 := by cases r <;> rfl
theorem am_cv_cat (b : Nat) (sp : Nat → Option Nat) (v : Value) : (am_cv b sp v).category = v.category := by
  cases v <;> try rfl
  rename_i c
  show (cond (Nat.blt c 1000) (Value.ref (b + c)) (va_rf (sp c))).category = 1
  cases Nat.blt c 1000
  · exact am_rf_cat _
  · rfl
def am_ml (b : Nat) (sp : Nat → Option Nat) (l : am_LV) : am_LV := l.map (fun q => (q.1, am_cv b sp q.2))
theorem am_get_mem {l : am_LV} {i : Nat} {v : Value} (h : am_get l i = some v) : (i, v) ∈ l := by
  induction l with
  | nil => cases h
  | cons q t ih =>
    obtain ⟨j, w⟩ := q
    unfold am_get at h
    cases hb : Nat.beq j i with
    | true =>
      rw [hb] at h
      have e := Nat.eq_of_beq_eq_true hb
      cases h
      subst e
      exact List.mem_cons_self
    | false =>
      rw [hb] at h
      exact List.mem_cons_of_mem _ (ih h)
theorem am_has_get {ls : Array Slot} {n : Nat} {b : Nat} {sp : Nat → Option Nat} {l : am_LV} {i : Nat} {v : Value} (h : lv_has ls n (am_ml b sp l)) (hg : am_get l i = some v) : ls[i]? = some (.val (am_cv b sp v)) :=
  h.2.2 (i, am_cv b sp v) (List.mem_map.mpr ⟨(i, v), am_get_mem hg, rfl⟩)
theorem am_ins_mem {i : Nat} {v : Value} {l : am_LV} {q : Nat × Value} (h : q ∈ am_ins i v l) : q = (i, v) ∨ q ∈ l := by
  induction l with
  | nil => exact Or.inl (List.mem_singleton.mp h)
  | cons x t ih =>
    obtain ⟨j, w⟩ := x
    unfold am_ins at h
    cases hb : Nat.blt i j with
    | true =>
      rw [hb] at h
      exact List.mem_cons.mp h
    | false =>
      rw [hb] at h
      rcases List.mem_cons.mp h with h | h
      · exact Or.inr (h ▸ List.mem_cons_self)
      · exact (ih h).imp id (List.mem_cons_of_mem _)
theorem am_nb {a c : Nat} (h : Nat.beq a c = false) : (a == c) = false := by
  cases e : (a == c) with
  | false => rfl
  | true => rw [beq_iff_eq.mp e, Nat.beq_refl] at h; cases h
theorem am_f1_mem {i : Nat} {l : am_LV} {q : Nat × Value} (h : q ∈ am_f1 i l) : q ∈ l ∧ (!(q.1 == i) && !(q.1 + 1 == i && q.2.category == 2)) = true := by
  induction l with
  | nil => cases h
  | cons x t ih =>
    obtain ⟨j, w⟩ := x
    unfold am_f1 at h
    cases hb : (Nat.beq j i || (Nat.beq (j + 1) i && Nat.beq w.category 2)) with
    | true =>
      rw [hb] at h
      exact ⟨List.mem_cons_of_mem _ (ih h).1, (ih h).2⟩
    | false =>
      rw [hb] at h
      rcases List.mem_cons.mp h with h | h
      · subst h
        refine ⟨List.mem_cons_self, ?_⟩
        obtain ⟨h1, h2⟩ := Bool.or_eq_false_iff.mp hb
        show (!(j == i) && !(j + 1 == i && w.category == 2)) = true
        rw [am_nb h1]
        rcases Bool.and_eq_false_iff.mp h2 with h2 | h2
        · rw [am_nb h2]; rfl
        · rw [am_nb h2, Bool.and_false]; rfl
      · exact ⟨List.mem_cons_of_mem _ (ih h).1, (ih h).2⟩
theorem am_f2_mem {i : Nat} {l : am_LV} {q : Nat × Value} (h : q ∈ am_f2 i l) : q ∈ l ∧ (!(q.1 == i) && (!(q.1 == i + 1) && !(q.1 + 1 == i && q.2.category == 2))) = true := by
  induction l with
  | nil => cases h
  | cons x t ih =>
    obtain ⟨j, w⟩ := x
    unfold am_f2 at h
    cases hb : (Nat.beq j i || (Nat.beq j (i + 1) || (Nat.beq (j + 1) i && Nat.beq w.category 2))) with
    | true =>
      rw [hb] at h
      exact ⟨List.mem_cons_of_mem _ (ih h).1, (ih h).2⟩
    | false =>
      rw [hb] at h
      rcases List.mem_cons.mp h with h | h
      · subst h
        refine ⟨List.mem_cons_self, ?_⟩
        obtain ⟨h1, h2⟩ := Bool.or_eq_false_iff.mp hb
        obtain ⟨h3, h4⟩ := Bool.or_eq_false_iff.mp h2
        show (!(j == i) && (!(j == i + 1) && !(j + 1 == i && w.category == 2))) = true
        rw [am_nb h1, am_nb h3]
        rcases Bool.and_eq_false_iff.mp h4 with h5 | h5
        · rw [am_nb h5]; rfl
        · rw [am_nb h5, Bool.and_false]; rfl
      · exact ⟨List.mem_cons_of_mem _ (ih h).1, (ih h).2⟩
theorem am_has_set1 {ls : Array Slot} {n : Nat} {b : Nat} {sp : Nat → Option Nat} {l : am_LV} {i : Nat} {v : Value} (h : lv_has ls n ((i, am_cv b sp v) :: (am_ml b sp l).filter (fun q => !(q.1 == i) && !(q.1 + 1 == i && q.2.category == 2)))) : lv_has ls n (am_ml b sp (am_set1 l i v)) := by
  refine ⟨h.1, h.2.1, fun q hq => h.2.2 q ?_⟩
  obtain ⟨q0, hq0, rfl⟩ := List.mem_map.mp hq
  rcases am_ins_mem hq0 with rfl | hq1
  · exact List.mem_cons_self
  · obtain ⟨h1, h2⟩ := am_f1_mem hq1
    refine List.mem_cons_of_mem _ (List.mem_filter.mpr ⟨List.mem_map.mpr ⟨q0, h1, rfl⟩, ?_⟩)
    show (!(q0.1 == i) && !(q0.1 + 1 == i && (am_cv b sp q0.2).category == 2)) = true
    rw [am_cv_cat]
    exact h2
theorem am_has_set2 {ls : Array Slot} {n : Nat} {b : Nat} {sp : Nat → Option Nat} {l : am_LV} {i : Nat} {v : Value} (h : lv_has ls n ((i, am_cv b sp v) :: (am_ml b sp l).filter (fun q => !(q.1 == i) && (!(q.1 == i + 1) && !(q.1 + 1 == i && q.2.category == 2))))) : lv_has ls n (am_ml b sp (am_set2 l i v)) := by
  refine ⟨h.1, h.2.1, fun q hq => h.2.2 q ?_⟩
  obtain ⟨q0, hq0, rfl⟩ := List.mem_map.mp hq
  rcases am_ins_mem hq0 with rfl | hq1
  · exact List.mem_cons_self
  · obtain ⟨h1, h2⟩ := am_f2_mem hq1
    refine List.mem_cons_of_mem _ (List.mem_filter.mpr ⟨List.mem_map.mpr ⟨q0, h1, rfl⟩, ?_⟩)
    show (!(q0.1 == i) && (!(q0.1 == i + 1) && !(q0.1 + 1 == i && (am_cv b sp q0.2).category == 2))) = true
    rw [am_cv_cat]
    exact h2
/-- a field's value -/
def am_fv (b : Nat) (kr : Nat × Nat) (h : am_H) (c k : Nat) : Value := bif Nat.beq (am_rt c k).2 1000 then .int (h.1 c k) else bif Nat.blt (am_rt c k).2 kr.2 then .ref (b + (am_rt c k).1) else .null
/-- a cell -/
def am_ce (D : va_G) (ty : Nat → ClassId) (b : Nat) (kr : Nat × Nat) (h : am_H) (H : Heap) (c : Nat) : Prop :=
  ((am_shp c).1 = 0 → t_OB (b + c) (D.1 (am_shp c).2) (am_nf (am_shp c).2) (D.2 (am_shp c).2) H (am_fv b kr h c)) ∧
  ((am_shp c).1 = 1 → H[b + c]? = some (arrV (ty 1) (am_shp c).2 (fun j => .int (h.1 c j)))) ∧
  ((am_shp c).1 = 2 → H[b + c]? = some (arrV (ty 2) (am_shp c).2 (fun j => .int (h.1 c j)))) ∧
  ((am_shp c).1 = 3 → H[b + c]? = some (arrV (ty 3) (am_shp c).2 (fun j => .long (h.2 c j))))
def am_RP (D : va_G) (ty : Nat → ClassId) (b : Nat) (xs : Nat → Int32) (L : Nat) (kr : Nat × Nat) (h : am_H) (H : Heap) : Prop :=
  (H.size = b + kr.1 ∧ kr.1 ≤ 1000) ∧ (h.1 1050 = xs ∧ h.1 1051 0 = nI L) ∧ ∀ c, c < kr.1 → am_ce D ty b kr h H c
theorem am_ce.to {D : va_G} {ty : Nat → ClassId} {b : Nat} {kr kr' : Nat × Nat} {h h' : am_H} {H H1 : Heap} {c : Nat} (q : am_ce D ty b kr h H c) (hc : h'.1 c = h.1 c) (hl : h'.2 c = h.2 c) (hf : ∀ k, am_fv b kr' h c k = am_fv b kr h c k) (hH : H1[b + c]? = H[b + c]?) : am_ce D ty b kr' h' H1 c := by
  obtain ⟨q0, q1, q2, q3⟩ := q
  refine ⟨fun z => ((q0 z).kept hH).to (fun k _ => ?_), fun z => ?_, fun z => ?_, fun z => ?_⟩
  · rw [← hf k]
    unfold am_fv
    rw [hc]
  · rw [hH, hc]; exact q1 z
  · rw [hH, hc]; exact q2 z
  · rw [hH, hl]; exact q3 z
/-- what of the start nobody changes -/
def am_Env (b : Nat) (sp : Nat → Option Nat) (xs : Nat → Int32) (L : Nat) (U : State) : Prop :=
  (∃ a, sp 1040 = some a ∧ va_Z "LotPlanner" "AT_FIRST" "[I" (.ref a) (fun q => b ≤ q) U U.heap ∧ va_T .int a 6 (fun j => .int (am_F6 j)) (fun q => b ≤ q) U U.heap) ∧
  (∃ a, sp 1041 = some a ∧ va_Z "LotPlanner" "AT_MOST" "[I" (.ref a) (fun q => b ≤ q) U U.heap ∧ va_T .int a 6 (fun j => .int (am_M6 j)) (fun q => b ≤ q) U U.heap) ∧
  va_Z "java/lang/String" "COMPACT_STRINGS" "Z" (.int 1) (fun q => b ≤ q) U U.heap ∧
  va_Z "jdk/internal/util/Preconditions" "SIOOBE_FORMATTER" "Ljava/util/function/BiFunction;" (va_rf (sp 1060)) (fun q => b ≤ q) U U.heap ∧
  (∃ a, sp 1050 = some a ∧ a < b ∧ va_X a L xs U U.heap) ∧
  (∀ (j : Nat) (w : String × Nat × String × List Int32), am_st[j]? = some w → ∃ a v, sp (1000 + j) = some a ∧ sp (1020 + j) = some v ∧ vk_R w.1 w.2.1 w.2.2.1 a U ∧ va_O "java/lang/String" a (fun q => b ≤ q) U U.heap ∧ va_OF "java/lang/String" "coder" "B" (.int 0) a (fun q => b ≤ q) U U.heap ∧ va_OF "java/lang/String" "value" "[B" (.ref v) a (fun q => b ≤ q) U U.heap ∧ va_T .byte v (am_by j).length (fun k => .int ((am_by j).getD k 0)) (fun q => b ≤ q) U U.heap) ∧
  (∀ q ∈ am_ne, va_Nw (.methodLinkNest (am_cn q.1) q.2.1 (am_Y (am_meth q.2.2)) "LotPlanner") U) ∧
  va_Nw (.fieldLinkNest "LotPlanner$Numbers" 26 "LotPlanner" "AT_FIRST" "[I" "LotPlanner") U ∧ b ≤ U.heap.size
theorem am_Env.go {b : Nat} {sp : Nat → Option Nat} {xs : Nat → Int32} {L : Nat} {u U : State} (E : am_Env b sp xs L u) (hvm : u.vm.Alike U.vm) (hsz : u.heap.size ≤ U.heap.size) (hq : ∀ a : Nat, a < u.heap.size → ¬ b ≤ a → U.heap[a]? = u.heap[a]?)
    (hR : ∀ (own tx : String) (k a : Nat), vk_R own k tx a u → vk_R own k tx a U) (hN : ∀ (c : String) (i : Nat) (y : MethodName) (h : String), va_Nw (.methodLinkNest c i y h) u → va_Nw (.methodLinkNest c i y h) U) (hF : ∀ (c : String) (i : Nat) (x n d h : String), va_Nw (.fieldLinkNest c i x n d h) u → va_Nw (.fieldLinkNest c i x n d h) U) : am_Env b sp xs L U := by
  obtain ⟨⟨a0, e1, e2, e3⟩, ⟨a1, e4, e5, e6⟩, e7, e8, ⟨a2, e9, e10, e11⟩, e12, e13, e14, e15⟩ := E
  refine ⟨⟨a0, e1, (e2.moved hvm).kept hq, (e3.moved hvm).kept hq⟩, ⟨a1, e4, (e5.moved hvm).kept hq, (e6.moved hvm).kept hq⟩, (e7.moved hvm).kept hq, (e8.moved hvm).kept hq, ⟨a2, e9, e10, (e11.moved hvm).kept (hq a2 (Nat.lt_of_lt_of_le e10 e15) (Nat.not_le.mpr e10))⟩, fun j w hj => ?_, fun q hq2 => hN _ _ _ _ (e13 q hq2), hF _ _ _ _ _ _ e14, Nat.le_trans e15 hsz⟩
  obtain ⟨a, v, f1, f2, f3, f4, f5, f6, f7⟩ := e12 j w hj
  exact ⟨a, v, f1, f2, hR _ _ _ _ f3, (f4.moved hvm).kept hq, (f5.moved hvm).kept hq, (f6.moved hvm).kept hq, (f7.moved hvm).kept hq⟩
/-- what is fixed within a method -/
def am_Fx (p : Program) (s : State) (m : MethodId) (args : Array Value) (meth : Method) (c : Code) (D : va_G) (ty : Nat → ClassId) (b : Nat) (sp : Nat → Option Nat) (xs : Nat → Int32) (L : Nat) (md : am_MD) : Prop :=
  (p.tables.exec = Jvm.exec ∧ c.code = am_B md ∧ c.maxLocals = am_L md ∧ s.vm.findClass (am_cn (am_O md)) = some m.cls) ∧ (∀ w ∈ am_W, w.before args s = true) ∧ va_K D vwCl [(ty 1, .int), (ty 2, .char), (ty 3, .long)] s ∧ am_Env b sp xs L s ∧ am_mok md ∧ (am_N md = true → meth.name = "<init>") ∧ L < 2 ^ 31
def am_St (s : State) (D : va_G) (ty : Nat → ClassId) (b : Nat) (sp : Nat → Option Nat) (xs : Nat → Int32) (L : Nat) (md : am_MD) (H : Heap) (locs : List Loc) (ls : Array Slot) (l : am_LV) (kr : Nat × Nat) (h : am_H) : Prop :=
  am_RP D ty b xs L kr h H ∧ va_S (fun q => b ≤ q) s.heap H locs ∧ lv_has ls (am_L md) (am_ml b sp l)
