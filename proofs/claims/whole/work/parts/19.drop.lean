/-! LOCALS THAT NOBODY READS -/
section DROP
variable {pc pc0 : Nat} {l : am_LV} {st : List Value} {kr : Nat × Nat} {h : am_H}
def am_re (l : am_LV) (C : am_C) : am_C := (C.1, l, C.2.2)
theorem am_b2_l {f : Int32 → Int32 → Int32} : am_b2 pc l st kr h f = (am_b2 pc [] st kr h f).map (am_re l) := by
  unfold am_b2
  first | rfl | (rcases st with _ | ⟨v2, st⟩ <;> first | rfl | (cases v2 <;> (first | rfl | (rcases st with _ | ⟨v1, st⟩ <;> first | rfl | (cases v1 <;> (first | rfl | ((try dsimp only); (try simp only [Bool.cond_eq_ite]); (repeat' split) <;> first | rfl | simp_all [am_re])))))))
theorem am_l2_l {f : Int64 → Int64 → Int64} : am_l2 pc l st kr h f = (am_l2 pc [] st kr h f).map (am_re l) := by
  unfold am_l2
  first | rfl | (rcases st with _ | ⟨v2, st⟩ <;> first | rfl | (cases v2 <;> (first | rfl | (rcases st with _ | ⟨v1, st⟩ <;> first | rfl | (cases v1 <;> (first | rfl | ((try dsimp only); (try simp only [Bool.cond_eq_ite]); (repeat' split) <;> first | rfl | simp_all [am_re])))))))
theorem am_d2_l {f : Int32 → Int32 → Int32} : am_d2 pc l st kr h f = (am_d2 pc [] st kr h f).map (am_re l) := by
  unfold am_d2
  first | rfl | (rcases st with _ | ⟨v2, st⟩ <;> first | rfl | (cases v2 <;> (first | rfl | (rcases st with _ | ⟨v1, st⟩ <;> first | rfl | (cases v1 <;> (first | rfl | ((try dsimp only); (try simp only [Bool.cond_eq_ite]); (repeat' split) <;> first | rfl | simp_all [am_re])))))))
theorem am_bz_l {g : Int32 → Bool} {tg : Nat} : am_bz pc l st kr h g tg = (am_bz pc [] st kr h g tg).map (am_re l) := by
  unfold am_bz
  first | rfl | (rcases st with _ | ⟨v1, st⟩ <;> first | rfl | (cases v1 <;> (first | rfl | ((try dsimp only); (try simp only [Bool.cond_eq_ite]); (repeat' split) <;> first | rfl | simp_all [am_re]))))
theorem am_bi_l {g : Int32 → Int32 → Bool} {tg : Nat} : am_bi pc l st kr h g tg = (am_bi pc [] st kr h g tg).map (am_re l) := by
  unfold am_bi
  first | rfl | (rcases st with _ | ⟨v2, st⟩ <;> first | rfl | (cases v2 <;> (first | rfl | (rcases st with _ | ⟨v1, st⟩ <;> first | rfl | (cases v1 <;> (first | rfl | ((try dsimp only); (try simp only [Bool.cond_eq_ite]); (repeat' split) <;> first | rfl | simp_all [am_re])))))))
theorem am_iald_l  : am_iald pc l st kr h  = (am_iald pc [] st kr h ).map (am_re l) := by
  unfold am_iald
  first | rfl | (rcases st with _ | ⟨v2, st⟩ <;> first | rfl | (cases v2 <;> (first | rfl | (rcases st with _ | ⟨v1, st⟩ <;> first | rfl | (cases v1 <;> (first | rfl | ((try dsimp only); (try simp only [Bool.cond_eq_ite]); (repeat' split) <;> first | rfl | simp_all [am_re])))))))
theorem am_cald_l  : am_cald pc l st kr h  = (am_cald pc [] st kr h ).map (am_re l) := by
  unfold am_cald
  first | rfl | (rcases st with _ | ⟨v2, st⟩ <;> first | rfl | (cases v2 <;> (first | rfl | (rcases st with _ | ⟨v1, st⟩ <;> first | rfl | (cases v1 <;> (first | rfl | ((try dsimp only); (try simp only [Bool.cond_eq_ite]); (repeat' split) <;> first | rfl | simp_all [am_re])))))))
theorem am_lald_l  : am_lald pc l st kr h  = (am_lald pc [] st kr h ).map (am_re l) := by
  unfold am_lald
  first | rfl | (rcases st with _ | ⟨v2, st⟩ <;> first | rfl | (cases v2 <;> (first | rfl | (rcases st with _ | ⟨v1, st⟩ <;> first | rfl | (cases v1 <;> (first | rfl | ((try dsimp only); (try simp only [Bool.cond_eq_ite]); (repeat' split) <;> first | rfl | simp_all [am_re])))))))
theorem am_bald_l  : am_bald pc l st kr h  = (am_bald pc [] st kr h ).map (am_re l) := by
  unfold am_bald
  first | rfl | (rcases st with _ | ⟨v2, st⟩ <;> first | rfl | (cases v2 <;> (first | rfl | (rcases st with _ | ⟨v1, st⟩ <;> first | rfl | (cases v1 <;> (first | rfl | ((try dsimp only); (try simp only [Bool.cond_eq_ite]); (repeat' split) <;> first | rfl | simp_all [am_re])))))))
theorem am_iast_l  : am_iast pc l st kr h  = (am_iast pc [] st kr h ).map (am_re l) := by
  unfold am_iast
  first | rfl | (rcases st with _ | ⟨v3, st⟩ <;> first | rfl | (cases v3 <;> (first | rfl | (rcases st with _ | ⟨v2, st⟩ <;> first | rfl | (cases v2 <;> (first | rfl | (rcases st with _ | ⟨v1, st⟩ <;> first | rfl | (cases v1 <;> (first | rfl | ((try dsimp only); (try simp only [Bool.cond_eq_ite]); (repeat' split) <;> first | rfl | simp_all [am_re]))))))))))
theorem am_cast_l  : am_cast pc l st kr h  = (am_cast pc [] st kr h ).map (am_re l) := by
  unfold am_cast
  first | rfl | (rcases st with _ | ⟨v3, st⟩ <;> first | rfl | (cases v3 <;> (first | rfl | (rcases st with _ | ⟨v2, st⟩ <;> first | rfl | (cases v2 <;> (first | rfl | (rcases st with _ | ⟨v1, st⟩ <;> first | rfl | (cases v1 <;> (first | rfl | ((try dsimp only); (try simp only [Bool.cond_eq_ite]); (repeat' split) <;> first | rfl | simp_all [am_re]))))))))))
theorem am_last_l  : am_last pc l st kr h  = (am_last pc [] st kr h ).map (am_re l) := by
  unfold am_last
  first | rfl | (rcases st with _ | ⟨v3, st⟩ <;> first | rfl | (cases v3 <;> (first | rfl | (rcases st with _ | ⟨v2, st⟩ <;> first | rfl | (cases v2 <;> (first | rfl | (rcases st with _ | ⟨v1, st⟩ <;> first | rfl | (cases v1 <;> (first | rfl | ((try dsimp only); (try simp only [Bool.cond_eq_ite]); (repeat' split) <;> first | rfl | simp_all [am_re]))))))))))
theorem am_alen_l  : am_alen pc l st kr h  = (am_alen pc [] st kr h ).map (am_re l) := by
  unfold am_alen
  first | rfl | (rcases st with _ | ⟨v1, st⟩ <;> first | rfl | (cases v1 <;> (first | rfl | ((try dsimp only); (try simp only [Bool.cond_eq_ite]); (repeat' split) <;> first | rfl | simp_all [am_re]))))
theorem am_nwa_l {ty : Nat} : am_nwa pc l st kr h ty = (am_nwa pc [] st kr h ty).map (am_re l) := by
  unfold am_nwa
  first | rfl | (rcases st with _ | ⟨v1, st⟩ <;> first | rfl | (cases v1 <;> (first | rfl | ((try dsimp only); (try simp only [Bool.cond_eq_ite]); (repeat' split) <;> first | rfl | simp_all [am_re]))))
theorem am_dup_l  : am_dup pc l st kr h  = (am_dup pc [] st kr h ).map (am_re l) := by
  unfold am_dup
  first | rfl | (rcases st with _ | ⟨v1, st⟩ <;> first | rfl | (cases v1 <;> (first | rfl | ((try dsimp only); (try simp only [Bool.cond_eq_ite]); (repeat' split) <;> first | rfl | simp_all [am_re]))))
theorem am_dup2_l  : am_dup2 pc l st kr h  = (am_dup2 pc [] st kr h ).map (am_re l) := by
  unfold am_dup2
  first | rfl | (rcases st with _ | ⟨v2, st⟩ <;> first | rfl | (cases v2 <;> (first | rfl | (rcases st with _ | ⟨v1, st⟩ <;> first | rfl | (cases v1 <;> (first | rfl | ((try dsimp only); (try simp only [Bool.cond_eq_ite]); (repeat' split) <;> first | rfl | simp_all [am_re])))))))
theorem am_pop_l  : am_pop pc l st kr h  = (am_pop pc [] st kr h ).map (am_re l) := by
  unfold am_pop
  first | rfl | (rcases st with _ | ⟨v1, st⟩ <;> first | rfl | (cases v1 <;> (first | rfl | ((try dsimp only); (try simp only [Bool.cond_eq_ite]); (repeat' split) <;> first | rfl | simp_all [am_re]))))
theorem am_ng_l  : am_ng pc l st kr h  = (am_ng pc [] st kr h ).map (am_re l) := by
  unfold am_ng
  first | rfl | (rcases st with _ | ⟨v1, st⟩ <;> first | rfl | (cases v1 <;> (first | rfl | ((try dsimp only); (try simp only [Bool.cond_eq_ite]); (repeat' split) <;> first | rfl | simp_all [am_re]))))
theorem am_i2l_l  : am_i2l pc l st kr h  = (am_i2l pc [] st kr h ).map (am_re l) := by
  unfold am_i2l
  first | rfl | (rcases st with _ | ⟨v1, st⟩ <;> first | rfl | (cases v1 <;> (first | rfl | ((try dsimp only); (try simp only [Bool.cond_eq_ite]); (repeat' split) <;> first | rfl | simp_all [am_re]))))
theorem am_l2i_l  : am_l2i pc l st kr h  = (am_l2i pc [] st kr h ).map (am_re l) := by
  unfold am_l2i
  first | rfl | (rcases st with _ | ⟨v1, st⟩ <;> first | rfl | (cases v1 <;> (first | rfl | ((try dsimp only); (try simp only [Bool.cond_eq_ite]); (repeat' split) <;> first | rfl | simp_all [am_re]))))
theorem am_i2c_l  : am_i2c pc l st kr h  = (am_i2c pc [] st kr h ).map (am_re l) := by
  unfold am_i2c
  first | rfl | (rcases st with _ | ⟨v1, st⟩ <;> first | rfl | (cases v1 <;> (first | rfl | ((try dsimp only); (try simp only [Bool.cond_eq_ite]); (repeat' split) <;> first | rfl | simp_all [am_re]))))
theorem am_lsh_l  : am_lsh pc l st kr h  = (am_lsh pc [] st kr h ).map (am_re l) := by
  unfold am_lsh
  first | rfl | (rcases st with _ | ⟨v2, st⟩ <;> first | rfl | (cases v2 <;> (first | rfl | (rcases st with _ | ⟨v1, st⟩ <;> first | rfl | (cases v1 <;> (first | rfl | ((try dsimp only); (try simp only [Bool.cond_eq_ite]); (repeat' split) <;> first | rfl | simp_all [am_re])))))))
theorem am_cmp_l  : am_cmp pc l st kr h  = (am_cmp pc [] st kr h ).map (am_re l) := by
  unfold am_cmp
  first | rfl | (rcases st with _ | ⟨v2, st⟩ <;> first | rfl | (cases v2 <;> (first | rfl | (rcases st with _ | ⟨v1, st⟩ <;> first | rfl | (cases v1 <;> (first | rfl | ((try dsimp only); (try simp only [Bool.cond_eq_ite]); (repeat' split) <;> first | rfl | simp_all [am_re])))))))
theorem am_ldi_l {v : Option Value} : am_ldi pc l st kr h v = (am_ldi pc [] st kr h v).map (am_re l) := by
  unfold am_ldi
  rcases v with _ | v
  · rfl
  · cases v <;> rfl
theorem am_ldl_l {v : Option Value} : am_ldl pc l st kr h v = (am_ldl pc [] st kr h v).map (am_re l) := by
  unfold am_ldl
  rcases v with _ | v
  · rfl
  · cases v <;> rfl
theorem am_lda_l {v : Option Value} : am_lda pc l st kr h v = (am_lda pc [] st kr h v).map (am_re l) := by
  unfold am_lda
  rcases v with _ | v
  · rfl
  · cases v <;> rfl
theorem am_new_l {f : Option (Nat × Nat × Nat × Nat)} : am_new pc l st kr h f = (am_new pc [] st kr h f).map (am_re l) := by
  unfold am_new
  rcases f with _ | f
  · rfl
  · first | rfl | ((try dsimp only); (try simp only [Bool.cond_eq_ite]); (repeat' split) <;> first | rfl | simp_all [am_re])
theorem am_lc2_l {f : Option (Int64 × Nat)} : am_lc2 pc l st kr h f = (am_lc2 pc [] st kr h f).map (am_re l) := by
  unfold am_lc2
  rcases f with _ | f
  · rfl
  · first | rfl | ((try dsimp only); (try simp only [Bool.cond_eq_ite]); (repeat' split) <;> first | rfl | simp_all [am_re])
theorem am_gst_l {f : Option Value} : am_gst pc l st kr h f = (am_gst pc [] st kr h f).map (am_re l) := by
  unfold am_gst
  rcases f with _ | f
  · rfl
  · first | rfl | ((try dsimp only); (try simp only [Bool.cond_eq_ite]); (repeat' split) <;> first | rfl | simp_all [am_re])
theorem am_ldc_l {o i y : Nat} {k : Int} : am_ldc pc l st kr h o i y k = (am_ldc pc [] st kr h o i y k).map (am_re l) := by
  unfold am_ldc
  first | rfl | ((try dsimp only); (try simp only [Bool.cond_eq_ite]); (repeat' split) <;> first | rfl | simp_all [am_re])
theorem am_sw_l {d lo hi : Int} {o : Array Int} : am_sw l st kr h pc0 d lo hi o = (am_sw [] st kr h pc0 d lo hi o).map (am_re l) := by
  unfold am_sw
  first | rfl | (rcases st with _ | ⟨v1, st⟩ <;> first | rfl | (cases v1 <;> (first | rfl | ((try dsimp only); (try simp only [Bool.cond_eq_ite]); (repeat' split) <;> first | rfl | simp_all [am_re]))))
theorem am_gf_l {f : Option (Nat × Nat × Nat × Nat)} : am_gf pc l st kr h f = (am_gf pc [] st kr h f).map (am_re l) := by
  unfold am_gf
  rcases f with _ | ⟨f1, f2, f3, f4⟩ <;> first | rfl | (rcases st with _ | ⟨v1, st⟩ <;> first | rfl | (cases v1 <;> (first | rfl | ((try dsimp only); (try simp only [Bool.cond_eq_ite]); (repeat' split) <;> first | rfl | simp_all [am_re]))))
theorem am_pf_l {ini : Bool} {o : Nat} {f : Option (Nat × Nat × Nat × Nat)} : am_pf pc l st kr h ini o f = (am_pf pc [] st kr h ini o f).map (am_re l) := by
  unfold am_pf
  rcases f with _ | ⟨f1, f2, f3, f4⟩ <;> first | rfl | (rcases st with _ | ⟨v1, st⟩ <;> first | rfl | (rcases st with _ | ⟨v2, st⟩ <;> first | rfl | (cases v2 <;> first | rfl | (cases v1 <;> first | rfl | ((try dsimp only); (try simp only [Bool.cond_eq_ite]); (repeat' split) <;> first | rfl | simp_all [am_re])))))
end DROP
/-- no key stands twice -/
def am_nd : am_LV → Bool
  | [] => true
  | (j, _) :: t => (t.all fun e => !Nat.beq e.1 j) && am_nd t
theorem am_nd_c {j : Nat} {v : Value} {t : am_LV} (q : am_nd ((j, v) :: t) = true) : (∀ e ∈ t, e.1 ≠ j) ∧ am_nd t = true := by
  unfold am_nd at q
  rw [Bool.and_eq_true] at q
  refine ⟨fun e q1 q2 => ?_, q.2⟩
  have q3 := (List.all_eq_true.mp q.1) e q1
  rw [q2, Nat.beq_refl] at q3
  cases q3
theorem am_nd_k {j : Nat} {v : Value} {t : am_LV} (q1 : ∀ e ∈ t, e.1 ≠ j) (q2 : am_nd t = true) : am_nd ((j, v) :: t) = true := by
  unfold am_nd
  rw [Bool.and_eq_true]
  refine ⟨List.all_eq_true.mpr fun e q3 => ?_, q2⟩
  cases q4 : Nat.beq e.1 j with
  | false => rfl
  | true => exact absurd (Nat.eq_of_beq_eq_true q4) (q1 e q3)
theorem am_get_m {i : Nat} {v : Value} : ∀ (l : am_LV), am_get l i = some v → (i, v) ∈ l := by
  intro l
  induction l with
  | nil => intro q; cases q
  | cons e t z_ih =>
    obtain ⟨j, w⟩ := e
    intro q
    unfold am_get at q
    cases q1 : Nat.beq j i with
    | true =>
      rw [q1, cond_true] at q
      cases q
      rw [Nat.eq_of_beq_eq_true q1]
      exact List.mem_cons_self
    | false =>
      rw [q1, cond_false] at q
      exact List.mem_cons_of_mem _ (z_ih q)
theorem am_get_n {i : Nat} {v : Value} : ∀ (l : am_LV), am_nd l = true → (i, v) ∈ l → am_get l i = some v := by
  intro l
  induction l with
  | nil => intro _ q; cases q
  | cons e t z_ih =>
    obtain ⟨j, w⟩ := e
    intro q0 q
    obtain ⟨q1, q2⟩ := am_nd_c q0
    unfold am_get
    rcases List.mem_cons.mp q with q3 | q3
    · cases q3
      rw [Nat.beq_refl, cond_true]
    · rw [show Nat.beq j i = false from Bool.eq_false_iff.mpr fun y => q1 _ q3 (Nat.eq_of_beq_eq_true y).symm, cond_false]
      exact z_ih q2 q3
def am_fc1 (i : Nat) (e : Nat × Value) : Bool := Nat.beq e.1 i || (Nat.beq (e.1 + 1) i && Nat.beq e.2.category 2)
def am_fc2 (i : Nat) (e : Nat × Value) : Bool := Nat.beq e.1 i || (Nat.beq e.1 (i + 1) || (Nat.beq (e.1 + 1) i && Nat.beq e.2.category 2))
theorem am_f1_m (i : Nat) (x : Nat × Value) : ∀ (l : am_LV), x ∈ am_f1 i l ↔ x ∈ l ∧ am_fc1 i x = false := by
  intro l
  induction l with
  | nil => exact ⟨fun q => (by cases q), fun q => (by cases q.1)⟩
  | cons e t z_ih =>
    show x ∈ (bif am_fc1 i e then am_f1 i t else e :: am_f1 i t) ↔ _
    cases q : am_fc1 i e with
    | true =>
      rw [cond_true, z_ih]
      refine ⟨fun y => ⟨List.mem_cons_of_mem _ y.1, y.2⟩, fun y => ⟨?_, y.2⟩⟩
      rcases List.mem_cons.mp y.1 with y1 | y1
      · rw [y1, q] at y; cases y.2
      · exact y1
    | false =>
      rw [cond_false, List.mem_cons, List.mem_cons, z_ih]
      refine ⟨fun y => ?_, fun y => ?_⟩
      · rcases y with y | y
        · rw [y]; exact ⟨Or.inl rfl, q⟩
        · exact ⟨Or.inr y.1, y.2⟩
      · rcases y.1 with y1 | y1
        · exact Or.inl y1
        · exact Or.inr ⟨y1, y.2⟩
theorem am_f2_m (i : Nat) (x : Nat × Value) : ∀ (l : am_LV), x ∈ am_f2 i l ↔ x ∈ l ∧ am_fc2 i x = false := by
  intro l
  induction l with
  | nil => exact ⟨fun q => (by cases q), fun q => (by cases q.1)⟩
  | cons e t z_ih =>
    show x ∈ (bif am_fc2 i e then am_f2 i t else e :: am_f2 i t) ↔ _
    cases q : am_fc2 i e with
    | true =>
      rw [cond_true, z_ih]
      refine ⟨fun y => ⟨List.mem_cons_of_mem _ y.1, y.2⟩, fun y => ⟨?_, y.2⟩⟩
      rcases List.mem_cons.mp y.1 with y1 | y1
      · rw [y1, q] at y; cases y.2
      · exact y1
    | false =>
      rw [cond_false, List.mem_cons, List.mem_cons, z_ih]
      refine ⟨fun y => ?_, fun y => ?_⟩
      · rcases y with y | y
        · rw [y]; exact ⟨Or.inl rfl, q⟩
        · exact ⟨Or.inr y.1, y.2⟩
      · rcases y.1 with y1 | y1
        · exact Or.inl y1
        · exact Or.inr ⟨y1, y.2⟩
theorem am_f1_nd (i : Nat) : ∀ (l : am_LV), am_nd l = true → am_nd (am_f1 i l) = true := by
  intro l
  induction l with
  | nil => intro _; rfl
  | cons e t z_ih =>
    intro q
    obtain ⟨q1, q2⟩ := am_nd_c q
    show am_nd (bif am_fc1 i e then am_f1 i t else e :: am_f1 i t) = true
    cases am_fc1 i e with
    | true => exact z_ih q2
    | false => exact am_nd_k (fun x y => q1 x ((am_f1_m _ _ _).mp y).1) (z_ih q2)
theorem am_f2_nd (i : Nat) : ∀ (l : am_LV), am_nd l = true → am_nd (am_f2 i l) = true := by
  intro l
  induction l with
  | nil => intro _; rfl
  | cons e t z_ih =>
    intro q
    obtain ⟨q1, q2⟩ := am_nd_c q
    show am_nd (bif am_fc2 i e then am_f2 i t else e :: am_f2 i t) = true
    cases am_fc2 i e with
    | true => exact z_ih q2
    | false => exact am_nd_k (fun x y => q1 x ((am_f2_m _ _ _).mp y).1) (z_ih q2)
theorem am_ins_m (i : Nat) (v : Value) (x : Nat × Value) : ∀ (l : am_LV), x ∈ am_ins i v l ↔ x = (i, v) ∨ x ∈ l := by
  intro l
  induction l with
  | nil => exact List.mem_singleton.trans ⟨Or.inl, fun q => q.elim id (fun y => by cases y)⟩
  | cons e t z_ih =>
    obtain ⟨j, w⟩ := e
    show x ∈ (bif Nat.blt i j then (i, v) :: (j, w) :: t else (j, w) :: am_ins i v t) ↔ _
    cases Nat.blt i j with
    | true => exact List.mem_cons
    | false =>
      rw [cond_false, List.mem_cons, List.mem_cons, z_ih]
      exact ⟨fun y => y.elim (fun z => Or.inr (Or.inl z)) (fun z => z.elim Or.inl (fun u => Or.inr (Or.inr u))), fun y => y.elim (fun z => Or.inr (Or.inl z)) (fun z => z.elim Or.inl (fun u => Or.inr (Or.inr u)))⟩
theorem am_ins_nd (i : Nat) (v : Value) : ∀ (l : am_LV), am_nd l = true → (∀ e ∈ l, e.1 ≠ i) → am_nd (am_ins i v l) = true := by
  intro l
  induction l with
  | nil => intro _ _; rfl
  | cons e t z_ih =>
    obtain ⟨j, w⟩ := e
    intro q q0
    obtain ⟨q1, q2⟩ := am_nd_c q
    show am_nd (bif Nat.blt i j then (i, v) :: (j, w) :: t else (j, w) :: am_ins i v t) = true
    cases Nat.blt i j with
    | true => exact am_nd_k q0 q
    | false =>
      refine am_nd_k (fun x y => ?_) (z_ih q2 (fun x y => q0 x (List.mem_cons_of_mem _ y)))
      rcases (am_ins_m _ _ _ _).mp y with y1 | y1
      · rw [y1]; exact fun z => q0 _ List.mem_cons_self z.symm
      · exact q1 x y1
def am_LL (l l' : am_LV) : Prop := am_nd l' = true ∧ ∀ x ∈ l, x ∈ l'
theorem am_LL_g {l l' : am_LV} (q : am_LL l l') {i : Nat} {v : Value} (q1 : am_get l i = some v) : am_get l' i = some v := am_get_n _ q.1 (q.2 _ (am_get_m _ q1))
theorem am_LL_1 {l l' : am_LV} (q : am_LL l l') (i : Nat) (v : Value) : am_LL (am_set1 l i v) (am_set1 l' i v) := by
  refine ⟨am_ins_nd _ _ _ (am_f1_nd _ _ q.1) (fun e y z => ?_), fun x y => ?_⟩
  · have y1 := ((am_f1_m _ _ _).mp y).2
    unfold am_fc1 at y1
    rw [z, Nat.beq_refl, Bool.true_or] at y1
    cases y1
  · rcases (am_ins_m _ _ _ _).mp y with y1 | y1
    · exact (am_ins_m _ _ _ _).mpr (Or.inl y1)
    · have y2 := (am_f1_m _ _ _).mp y1
      exact (am_ins_m _ _ _ _).mpr (Or.inr ((am_f1_m _ _ _).mpr ⟨q.2 _ y2.1, y2.2⟩))
theorem am_LL_2 {l l' : am_LV} (q : am_LL l l') (i : Nat) (v : Value) : am_LL (am_set2 l i v) (am_set2 l' i v) := by
  refine ⟨am_ins_nd _ _ _ (am_f2_nd _ _ q.1) (fun e y z => ?_), fun x y => ?_⟩
  · have y1 := ((am_f2_m _ _ _).mp y).2
    unfold am_fc2 at y1
    rw [z, Nat.beq_refl, Bool.true_or] at y1
    cases y1
  · rcases (am_ins_m _ _ _ _).mp y with y1 | y1
    · exact (am_ins_m _ _ _ _).mpr (Or.inl y1)
    · have y2 := (am_f2_m _ _ _).mp y1
      exact (am_ins_m _ _ _ _).mpr (Or.inr ((am_f2_m _ _ _).mpr ⟨q.2 _ y2.1, y2.2⟩))
def am_LR (l' : am_LV) (X : Option am_C) (C : am_C) : Prop := ∃ l1, X = some (am_re l1 C) ∧ am_LL C.2.1 l1
theorem am_LR_l {l l' : am_LV} (q : am_LL l l') {X0 X X' : Option am_C} {C : am_C} (q1 : X = X0.map (am_re l)) (q2 : X' = X0.map (am_re l')) (q3 : X = some C) : am_LR l' X' C := by
  rw [q1] at q3
  cases X0 with
  | none => cases q3
  | some C0 =>
    cases q3
    exact ⟨l', q2, q⟩
section DR2
variable {pc : Nat} {l l' : am_LV} {st : List Value} {kr : Nat × Nat} {h : am_H} {C : am_C}
theorem am_ldi_g (q : am_LL l l') {i : Nat} (q1 : am_ldi pc l st kr h (am_get l i) = some C) : am_LR l' (am_ldi pc l' st kr h (am_get l' i)) C := by
  obtain ⟨x, q2, rfl⟩ := am_ldi_i q1
  rw [am_LL_g q q2]
  exact ⟨l', rfl, q⟩
theorem am_ldl_g (q : am_LL l l') {i : Nat} (q1 : am_ldl pc l st kr h (am_get l i) = some C) : am_LR l' (am_ldl pc l' st kr h (am_get l' i)) C := by
  obtain ⟨x, q2, rfl⟩ := am_ldl_i q1
  rw [am_LL_g q q2]
  exact ⟨l', rfl, q⟩
theorem am_lda_g (q : am_LL l l') {i : Nat} (q1 : am_lda pc l st kr h (am_get l i) = some C) : am_LR l' (am_lda pc l' st kr h (am_get l' i)) C := by
  obtain ⟨x, q2, rfl⟩ := am_lda_i q1
  rw [am_LL_g q q2]
  exact ⟨l', rfl, q⟩
theorem am_sti_g (q : am_LL l l') {n i : Nat} (q1 : am_sti pc l st kr h n i = some C) : am_LR l' (am_sti pc l' st kr h n i) C := by
  obtain ⟨x, r, rfl, q2, rfl⟩ := am_sti_i q1
  refine ⟨am_set1 l' i (.int x), ?_, am_LL_1 q _ _⟩
  show (bif Nat.blt i n then some _ else none) = _
  rw [show Nat.blt i n = true from Nat.ble_eq_true_of_le q2]
  rfl
theorem am_sta_g (q : am_LL l l') {n i : Nat} (q1 : am_sta pc l st kr h n i = some C) : am_LR l' (am_sta pc l' st kr h n i) C := by
  obtain ⟨x, r, rfl, q2, rfl⟩ := am_sta_i q1
  refine ⟨am_set1 l' i (.ref x), ?_, am_LL_1 q _ _⟩
  show (bif Nat.blt i n then some _ else none) = _
  rw [show Nat.blt i n = true from Nat.ble_eq_true_of_le q2]
  rfl
theorem am_stl_g (q : am_LL l l') {n i : Nat} (q1 : am_stl pc l st kr h n i = some C) : am_LR l' (am_stl pc l' st kr h n i) C := by
  obtain ⟨x, r, rfl, q2, rfl⟩ := am_stl_i q1
  refine ⟨am_set2 l' i (.long x), ?_, am_LL_2 q _ _⟩
  show (bif Nat.blt (i + 1) n then some _ else none) = _
  rw [show Nat.blt (i + 1) n = true from Nat.ble_eq_true_of_le q2]
  rfl
theorem am_inc_g (q : am_LL l l') {i n : Nat} {k : Int} (q1 : am_inc pc l st kr h (am_get l i) i n k = some C) : am_LR l' (am_inc pc l' st kr h (am_get l' i) i n k) C := by
  obtain ⟨x, q2, q3, rfl⟩ := am_inc_i q1
  rw [am_LL_g q q2]
  refine ⟨am_set1 l' i (.int (x + Int32.ofInt k)), ?_, am_LL_1 q _ _⟩
  show (bif Nat.blt i n then some _ else none) = _
  rw [show Nat.blt i n = true from Nat.ble_eq_true_of_le q3]
  rfl
end DR2
theorem am_stp_g {md : am_MD} {e : am_E} {pc : Nat} {l l' : am_LV} {st : List Value} {kr : Nat × Nat} {h : am_H} {C : am_C} (q : am_LL l l') (q1 : am_stp md e pc l st kr h = some C) : am_LR l' (am_stp md e pc l' st kr h) C := by
  obtain ⟨ins, tg, k⟩ := e
  cases ins <;> first
    | (cases q1; done)
    | exact am_ldi_g q q1
    | exact am_lda_g q q1
    | exact am_ldl_g q q1
    | exact am_sti_g q q1
    | exact am_sta_g q q1
    | exact am_stl_g q q1
    | exact am_inc_g q q1
    | exact (by cases q1; exact ⟨l', rfl, q⟩)
    | exact am_LR_l q am_b2_l am_b2_l q1
    | exact am_LR_l q am_l2_l am_l2_l q1
    | exact am_LR_l q am_d2_l am_d2_l q1
    | exact am_LR_l q am_bz_l am_bz_l q1
    | exact am_LR_l q am_bi_l am_bi_l q1
    | exact am_LR_l q am_iald_l am_iald_l q1
    | exact am_LR_l q am_cald_l am_cald_l q1
    | exact am_LR_l q am_lald_l am_lald_l q1
    | exact am_LR_l q am_bald_l am_bald_l q1
    | exact am_LR_l q am_iast_l am_iast_l q1
    | exact am_LR_l q am_cast_l am_cast_l q1
    | exact am_LR_l q am_last_l am_last_l q1
    | exact am_LR_l q am_alen_l am_alen_l q1
    | exact am_LR_l q am_nwa_l am_nwa_l q1
    | exact am_LR_l q am_dup_l am_dup_l q1
    | exact am_LR_l q am_dup2_l am_dup2_l q1
    | exact am_LR_l q am_pop_l am_pop_l q1
    | exact am_LR_l q am_ng_l am_ng_l q1
    | exact am_LR_l q am_i2l_l am_i2l_l q1
    | exact am_LR_l q am_l2i_l am_l2i_l q1
    | exact am_LR_l q am_i2c_l am_i2c_l q1
    | exact am_LR_l q am_lsh_l am_lsh_l q1
    | exact am_LR_l q am_cmp_l am_cmp_l q1
    | exact am_LR_l q am_new_l am_new_l q1
    | exact am_LR_l q am_lc2_l am_lc2_l q1
    | exact am_LR_l q am_gst_l am_gst_l q1
    | exact am_LR_l q am_ldc_l am_ldc_l q1
    | exact am_LR_l q am_sw_l am_sw_l q1
    | exact am_LR_l q am_gf_l am_gf_l q1
    | exact am_LR_l q am_pf_l am_pf_l q1
theorem am_exec_g : ∀ (n d : Nat) (md : am_MD) (pc : Nat) (l l' : am_LV) (st : List Value) (kr : Nat × Nat) (h : am_H) (o : Option Value × (Nat × Nat) × am_H), am_LL l l' → am_exec n d md pc l st kr h = some o → am_exec n d md pc l' st kr h = some o := by
  intro n
  induction n with
  | zero => intro d md pc l l' st kr h o _ q; cases q
  | succ n z_ih =>
    intro d md pc l l' st kr h o ql q
    obtain ⟨e, he, ⟨hk, C, hs, q⟩ | ⟨hk, r, hr, rfl⟩ | ⟨hk, d', rfl, ⟨md1, As, rest, hc, q⟩ | ⟨md1, As, rest, rv, kr1, h1, hc, hb, hx, q⟩⟩⟩ := am_ex_inv q
    · obtain ⟨l1, y1, y2⟩ := am_stp_g ql hs
      exact (am_ex0 he hk y1).trans (z_ih _ _ _ _ _ _ _ _ _ y2 q)
    · exact am_ex1 he hk hr
    · exact (am_ex2 he hk hc).trans (z_ih _ _ _ _ _ _ _ _ _ ql q)
    · exact (am_ex3 he hk hc hb hx).trans (z_ih _ _ _ _ _ _ _ _ _ ql q)
/-- without the locals of some numbers -/
def am_dp (ks : List Nat) (l : am_LV) : am_LV := l.filter fun e => !(ks.any fun k => Nat.beq k e.1)
theorem wp_drop {d : Nat} {md : am_MD} {pc : Nat} {l l' : am_LV} {st : List Value} {kr kr' : Nat × Nat} {h : am_H} {Q : Option Value → am_H → Prop} (ks : List Nat) (e : am_dp ks l' = l) (e2 : am_nd l' = true) (q : am_wp d md pc l st kr h kr' Q) : am_wp d md pc l' st kr h kr' Q := by
  obtain ⟨n, rv, h', q1, q2⟩ := q
  refine ⟨n, rv, h', am_exec_g _ _ _ _ _ _ _ _ _ _ ⟨e2, fun x y => ?_⟩ q1, q2⟩
  rw [← e] at y
  exact (List.mem_filter.mp y).1
