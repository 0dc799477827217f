/-! WHAT A STEP SAYS (inversions) -/
section INV
variable {pc pc0 : Nat} {l : am_LV} {st : List Value} {kr : Nat × Nat} {h : am_H} {C : am_C}
theorem am_ldi_i {v : Option Value} (q : am_ldi pc l st kr h v = some C) : ∃ x, v = some (.int x) ∧ C = (pc, l, .int x :: st, kr, h) := by
  unfold am_ldi at q
  split at q
  · exact ⟨_, rfl, (Option.some.inj q).symm⟩
  · cases q
theorem am_ldl_i {v : Option Value} (q : am_ldl pc l st kr h v = some C) : ∃ x, v = some (.long x) ∧ C = (pc, l, .long x :: st, kr, h) := by
  unfold am_ldl at q
  split at q
  · exact ⟨_, rfl, (Option.some.inj q).symm⟩
  · cases q
theorem am_lda_i {v : Option Value} (q : am_lda pc l st kr h v = some C) : ∃ x, v = some (.ref x) ∧ C = (pc, l, .ref x :: st, kr, h) := by
  unfold am_lda at q
  split at q
  · exact ⟨_, rfl, (Option.some.inj q).symm⟩
  · cases q
theorem am_sti_i {n i : Nat} (q : am_sti pc l st kr h n i = some C) : ∃ x r, st = .int x :: r ∧ i < n ∧ C = (pc, am_set1 l i (.int x), r, kr, h) := by
  unfold am_sti at q
  split at q
  · cases hb : Nat.blt i n with
    | false => rw [hb] at q; cases q
    | true => rw [hb] at q; exact ⟨_, _, rfl, Nat.le_of_ble_eq_true hb, (Option.some.inj q).symm⟩
  · cases q
theorem am_sta_i {n i : Nat} (q : am_sta pc l st kr h n i = some C) : ∃ x r, st = .ref x :: r ∧ i < n ∧ C = (pc, am_set1 l i (.ref x), r, kr, h) := by
  unfold am_sta at q
  split at q
  · cases hb : Nat.blt i n with
    | false => rw [hb] at q; cases q
    | true => rw [hb] at q; exact ⟨_, _, rfl, Nat.le_of_ble_eq_true hb, (Option.some.inj q).symm⟩
  · cases q
theorem am_stl_i {n i : Nat} (q : am_stl pc l st kr h n i = some C) : ∃ x r, st = .long x :: r ∧ i + 1 < n ∧ C = (pc, am_set2 l i (.long x), r, kr, h) := by
  unfold am_stl at q
  split at q
  · cases hb : Nat.blt (i + 1) n with
    | false => rw [hb] at q; cases q
    | true => rw [hb] at q; exact ⟨_, _, rfl, Nat.le_of_ble_eq_true hb, (Option.some.inj q).symm⟩
  · cases q
theorem am_b2_i {f : Int32 → Int32 → Int32} (q : am_b2 pc l st kr h f = some C) : ∃ x y r, st = .int y :: .int x :: r ∧ C = (pc, l, .int (f x y) :: r, kr, h) := by
  unfold am_b2 at q
  split at q
  · exact ⟨_, _, _, rfl, (Option.some.inj q).symm⟩
  · cases q
theorem am_l2_i {f : Int64 → Int64 → Int64} (q : am_l2 pc l st kr h f = some C) : ∃ x y r, st = .long y :: .long x :: r ∧ C = (pc, l, .long (f x y) :: r, kr, h) := by
  unfold am_l2 at q
  split at q
  · exact ⟨_, _, _, rfl, (Option.some.inj q).symm⟩
  · cases q
theorem am_d2_i {f : Int32 → Int32 → Int32} (q : am_d2 pc l st kr h f = some C) : ∃ x y r, st = .int y :: .int x :: r ∧ ¬ y = 0 ∧ C = (pc, l, .int (f x y) :: r, kr, h) := by
  unfold am_d2 at q
  split at q
  · rename_i y x r
    by_cases z : y = 0
    · rw [decide_eq_true z] at q; cases q
    · rw [decide_eq_false z] at q; exact ⟨_, _, _, rfl, z, (Option.some.inj q).symm⟩
  · cases q
theorem am_bz_i {g : Int32 → Bool} {tg : Nat} (q : am_bz pc l st kr h g tg = some C) : ∃ x r, st = .int x :: r ∧ C = (bif g x then tg else pc, l, r, kr, h) := by
  unfold am_bz at q
  split at q
  · exact ⟨_, _, rfl, (Option.some.inj q).symm⟩
  · cases q
theorem am_bi_i {g : Int32 → Int32 → Bool} {tg : Nat} (q : am_bi pc l st kr h g tg = some C) : ∃ x y r, st = .int y :: .int x :: r ∧ C = (bif g x y then tg else pc, l, r, kr, h) := by
  unfold am_bi at q
  split at q
  · exact ⟨_, _, _, rfl, (Option.some.inj q).symm⟩
  · cases q
theorem am_inc_i {v : Option Value} {i n : Nat} {k : Int} (q : am_inc pc l st kr h v i n k = some C) : ∃ x, v = some (.int x) ∧ i < n ∧ C = (pc, am_set1 l i (.int (x + Int32.ofInt k)), st, kr, h) := by
  unfold am_inc at q
  split at q
  · cases hb : Nat.blt i n with
    | false => rw [hb] at q; cases q
    | true => rw [hb] at q; exact ⟨_, rfl, Nat.le_of_ble_eq_true hb, (Option.some.inj q).symm⟩
  · cases q
theorem am_sw_i {d lo hi : Int} {o : Array Int} (q : am_sw l st kr h pc0 d lo hi o = some C) : ∃ x r f, st = .int x :: r ∧ 0 ≤ (pc0 : Int) + f ∧ C = (((pc0 : Int) + f).toNat, l, r, kr, h) ∧ (((x.toInt < lo ∨ hi < x.toInt) ∧ f = d) ∨ (¬ x.toInt < lo ∧ ¬ hi < x.toInt ∧ o[(x.toInt - lo).toNat]? = some f)) := by
  unfold am_sw at q
  split at q
  · rename_i x r
    cases hb : (decide (x.toInt < lo) || decide (hi < x.toInt)) with
    | true =>
      rw [hb] at q
      by_cases z : 0 ≤ (pc0 : Int) + d
      · rw [decide_eq_true z] at q
        refine ⟨x, r, d, rfl, z, (Option.some.inj q).symm, Or.inl ⟨?_, rfl⟩⟩
        simpa using hb
      · rw [decide_eq_false z] at q; cases q
    | false =>
      rw [hb] at q
      have hb2 : ¬ x.toInt < lo ∧ ¬ hi < x.toInt := by simpa using hb
      cases ho : o[(x.toInt - lo).toNat]? with
      | none => simp only [ho, cond_false] at q; cases q
      | some f =>
        simp only [ho, cond_false] at q
        by_cases z : 0 ≤ (pc0 : Int) + f
        · rw [decide_eq_true z] at q
          exact ⟨x, r, f, rfl, z, (Option.some.inj q).symm, Or.inr ⟨hb2.1, hb2.2, ho⟩⟩
        · rw [decide_eq_false z] at q; cases q
  · cases q
theorem am_iald_i (q : am_iald pc l st kr h = some C) : ∃ i c r n f, st = .int i :: .ref c :: r ∧ am_ar kr h c = some (n, f) ∧ am_in i n = true ∧ C = (pc, l, .int (f i.toNatClampNeg) :: r, kr, h) := by
  unfold am_iald at q
  split at q
  · rename_i i c r
    split at q
    · rename_i n f hf
      cases hb : am_in i n with
      | false => rw [hb] at q; cases q
      | true => rw [hb] at q; exact ⟨_, _, _, _, _, rfl, hf, hb, (Option.some.inj q).symm⟩
    · cases q
  · cases q
theorem am_cald_i (q : am_cald pc l st kr h = some C) : ∃ i c r, st = .int i :: .ref c :: r ∧ c < 1000 ∧ c < kr.1 ∧ (am_shp c).1 = 2 ∧ am_in i (am_shp c).2 = true ∧ C = (pc, l, .int (h.1 c i.toNatClampNeg) :: r, kr, h) := by
  unfold am_cald at q
  split at q
  · rename_i  i c r
    cases hb : ((Nat.blt c 1000 && (Nat.blt c kr.1 && Nat.beq (am_shp c).1 2)) && am_in i (am_shp c).2) with
    | false => rw [hb] at q; cases q
    | true =>
      rw [hb] at q
      simp only [Bool.and_eq_true] at hb
      exact ⟨ _, _, _, rfl, Nat.le_of_ble_eq_true hb.1.1, Nat.le_of_ble_eq_true hb.1.2.1, Nat.eq_of_beq_eq_true hb.1.2.2, hb.2, (Option.some.inj q).symm⟩
  · cases q
theorem am_lald_i (q : am_lald pc l st kr h = some C) : ∃ i c r, st = .int i :: .ref c :: r ∧ c < 1000 ∧ c < kr.1 ∧ (am_shp c).1 = 3 ∧ am_in i (am_shp c).2 = true ∧ C = (pc, l, .long (h.2 c i.toNatClampNeg) :: r, kr, h) := by
  unfold am_lald at q
  split at q
  · rename_i  i c r
    cases hb : ((Nat.blt c 1000 && (Nat.blt c kr.1 && Nat.beq (am_shp c).1 3)) && am_in i (am_shp c).2) with
    | false => rw [hb] at q; cases q
    | true =>
      rw [hb] at q
      simp only [Bool.and_eq_true] at hb
      exact ⟨ _, _, _, rfl, Nat.le_of_ble_eq_true hb.1.1, Nat.le_of_ble_eq_true hb.1.2.1, Nat.eq_of_beq_eq_true hb.1.2.2, hb.2, (Option.some.inj q).symm⟩
  · cases q
theorem am_iast_i (q : am_iast pc l st kr h = some C) : ∃ x i c r, st = .int x :: .int i :: .ref c :: r ∧ c < 1000 ∧ c < kr.1 ∧ (am_shp c).1 = 1 ∧ am_in i (am_shp c).2 = true ∧ C = (pc, l, r, kr, am_wr h c i.toNatClampNeg x) := by
  unfold am_iast at q
  split at q
  · rename_i x i c r
    cases hb : ((Nat.blt c 1000 && (Nat.blt c kr.1 && Nat.beq (am_shp c).1 1)) && am_in i (am_shp c).2) with
    | false => rw [hb] at q; cases q
    | true =>
      rw [hb] at q
      simp only [Bool.and_eq_true] at hb
      exact ⟨_, _, _, _, rfl, Nat.le_of_ble_eq_true hb.1.1, Nat.le_of_ble_eq_true hb.1.2.1, Nat.eq_of_beq_eq_true hb.1.2.2, hb.2, (Option.some.inj q).symm⟩
  · cases q
theorem am_cast_i (q : am_cast pc l st kr h = some C) : ∃ x i c r, st = .int x :: .int i :: .ref c :: r ∧ c < 1000 ∧ c < kr.1 ∧ (am_shp c).1 = 2 ∧ am_in i (am_shp c).2 = true ∧ C = (pc, l, r, kr, am_wr h c i.toNatClampNeg x.toUInt32.toUInt16.toUInt32.toInt32) := by
  unfold am_cast at q
  split at q
  · rename_i x i c r
    cases hb : ((Nat.blt c 1000 && (Nat.blt c kr.1 && Nat.beq (am_shp c).1 2)) && am_in i (am_shp c).2) with
    | false => rw [hb] at q; cases q
    | true =>
      rw [hb] at q
      simp only [Bool.and_eq_true] at hb
      exact ⟨_, _, _, _, rfl, Nat.le_of_ble_eq_true hb.1.1, Nat.le_of_ble_eq_true hb.1.2.1, Nat.eq_of_beq_eq_true hb.1.2.2, hb.2, (Option.some.inj q).symm⟩
  · cases q
theorem am_last_i (q : am_last pc l st kr h = some C) : ∃ x i c r, st = .long x :: .int i :: .ref c :: r ∧ c < 1000 ∧ c < kr.1 ∧ (am_shp c).1 = 3 ∧ am_in i (am_shp c).2 = true ∧ C = (pc, l, r, kr, am_wl h c i.toNatClampNeg x) := by
  unfold am_last at q
  split at q
  · rename_i x i c r
    cases hb : ((Nat.blt c 1000 && (Nat.blt c kr.1 && Nat.beq (am_shp c).1 3)) && am_in i (am_shp c).2) with
    | false => rw [hb] at q; cases q
    | true =>
      rw [hb] at q
      simp only [Bool.and_eq_true] at hb
      exact ⟨_, _, _, _, rfl, Nat.le_of_ble_eq_true hb.1.1, Nat.le_of_ble_eq_true hb.1.2.1, Nat.eq_of_beq_eq_true hb.1.2.2, hb.2, (Option.some.inj q).symm⟩
  · cases q
theorem am_bald_i (q : am_bald pc l st kr h = some C) : ∃ i c r, st = .int i :: .ref c :: r ∧ 1019 < c ∧ c < 1032 ∧ am_in i (am_by (c - 1020)).length = true ∧ C = (pc, l, .int ((am_by (c - 1020)).getD i.toNatClampNeg 0) :: r, kr, h) := by
  unfold am_bald at q
  split at q
  · rename_i i c r
    cases hb : ((Nat.blt 1019 c && Nat.blt c 1032) && am_in i (am_by (c - 1020)).length) with
    | false => rw [hb] at q; cases q
    | true =>
      rw [hb] at q
      simp only [Bool.and_eq_true] at hb
      exact ⟨_, _, _, rfl, Nat.le_of_ble_eq_true hb.1.1, Nat.le_of_ble_eq_true hb.1.2, hb.2, (Option.some.inj q).symm⟩
  · cases q
theorem am_alen_i (q : am_alen pc l st kr h = some C) : ∃ c r n, st = .ref c :: r ∧ am_ln kr h c = some n ∧ C = (pc, l, .int (Int32.ofInt n) :: r, kr, h) := by
  unfold am_alen at q
  split at q
  · rename_i c r
    split at q
    · rename_i n hn
      exact ⟨_, _, _, rfl, hn, (Option.some.inj q).symm⟩
    · cases q
  · cases q
theorem am_ob_s {k c ci : Nat} (q : am_ob k c ci = true) : c < 1000 ∧ c < k ∧ (am_shp c).1 = 0 ∧ (am_shp c).2 = ci := by
  unfold am_ob at q
  simp only [Bool.and_eq_true] at q
  exact ⟨Nat.le_of_ble_eq_true q.1, Nat.le_of_ble_eq_true q.2.1, Nat.eq_of_beq_eq_true q.2.2.1, Nat.eq_of_beq_eq_true q.2.2.2⟩
theorem am_gf_i {f : Option (Nat × Nat × Nat × Nat)} (q : am_gf pc l st kr h f = some C) : ∃ ci k t ps c r, f = some (ci, k, t, ps) ∧ st = .ref c :: r ∧
    ((t = 3 ∧ 999 < c ∧ c < 1012 ∧ C = (pc, l, (bif Nat.beq k 0 then .ref (c + 20) else .int 0) :: r, kr, h)) ∨
     (t ≠ 3 ∧ am_ob kr.1 c ci = true ∧ ((t = 2 ∧ (am_rt c k).2 < kr.2 ∧ C = (pc, l, .ref (am_rt c k).1 :: r, kr, h)) ∨ (t ≠ 2 ∧ C = (pc, l, .int (h.1 c k) :: r, kr, h))))) := by
  unfold am_gf at q
  split at q
  · rename_i ci k t ps c r
    refine ⟨ci, k, t, ps, c, r, rfl, rfl, ?_⟩
    cases h3 : Nat.beq t 3 with
    | true =>
      rw [h3] at q
      cases hb : (Nat.blt 999 c && Nat.blt c 1012) with
      | false => rw [hb] at q; cases q
      | true =>
        rw [hb] at q
        simp only [Bool.and_eq_true] at hb
        exact Or.inl ⟨Nat.eq_of_beq_eq_true h3, Nat.le_of_ble_eq_true hb.1, Nat.le_of_ble_eq_true hb.2, (Option.some.inj q).symm⟩
    | false =>
      rw [h3] at q
      cases ho : am_ob kr.1 c ci with
      | false => rw [ho] at q; cases q
      | true =>
        rw [ho] at q
        refine Or.inr ⟨Nat.ne_of_beq_eq_false h3, rfl, ?_⟩
        cases h2 : Nat.beq t 2 with
        | true =>
          rw [h2] at q
          cases hb : Nat.blt (am_rt c k).2 kr.2 with
          | false => rw [hb] at q; cases q
          | true => rw [hb] at q; exact Or.inl ⟨Nat.eq_of_beq_eq_true h2, Nat.le_of_ble_eq_true hb, (Option.some.inj q).symm⟩
        | false => rw [h2] at q; exact Or.inr ⟨Nat.ne_of_beq_eq_false h2, (Option.some.inj q).symm⟩
  · cases q
theorem am_pf_i {ini : Bool} {o : Nat} {f : Option (Nat × Nat × Nat × Nat)} (q : am_pf pc l st kr h ini o f = some C) : ∃ ci k t ps c r, f = some (ci, k, t, ps) ∧ am_ob kr.1 c ci = true ∧
    ((∃ x, st = .int x :: .ref c :: r ∧ (t = 0 ∨ (t = 1 ∧ (x = 0 ∨ x = 1))) ∧ C = (pc, l, r, kr, am_wr h c k x)) ∨
     (∃ x, st = .ref x :: .ref c :: r ∧ t = 2 ∧ ini = true ∧ o = ci ∧ x = (am_rt c k).1 ∧ kr.2 = (am_rt c k).2 ∧ x < 1000 ∧ C = (pc, l, r, (kr.1, kr.2 + 1), h))) := by
  unfold am_pf at q
  split at q
  · rename_i ci k t ps v c r
    refine ⟨ci, k, t, ps, c, r, rfl, ?_⟩
    cases ho : am_ob kr.1 c ci with
    | false => rw [ho] at q; cases q
    | true =>
      rw [ho] at q
      refine ⟨rfl, ?_⟩
      rw [cond_true] at q
      split at q
      · rename_i x
        cases hb : ((Nat.beq t 2 && (ini && Nat.beq o ci)) && (Nat.beq x (am_rt c k).1 && (Nat.beq kr.2 (am_rt c k).2 && (Nat.blt x 1000 && Nat.blt x kr.1)))) with
        | false => rw [hb] at q; cases q
        | true =>
          rw [hb] at q
          simp only [Bool.and_eq_true] at hb
          exact Or.inr ⟨x, rfl, Nat.eq_of_beq_eq_true hb.1.1, hb.1.2.1, Nat.eq_of_beq_eq_true hb.1.2.2, Nat.eq_of_beq_eq_true hb.2.1, Nat.eq_of_beq_eq_true hb.2.2.1, Nat.le_of_ble_eq_true hb.2.2.2.1, (Option.some.inj q).symm⟩
      · rename_i x
        cases hb : (Nat.beq t 0 || (Nat.beq t 1 && (decide (x = 0) || decide (x = 1)))) with
        | false => rw [hb] at q; cases q
        | true =>
          rw [hb] at q
          refine Or.inl ⟨x, rfl, ?_, (Option.some.inj q).symm⟩
          simp only [Bool.or_eq_true, Bool.and_eq_true, decide_eq_true_eq] at hb
          rcases hb with hb | hb
          · exact Or.inl (Nat.eq_of_beq_eq_true hb)
          · exact Or.inr ⟨Nat.eq_of_beq_eq_true hb.1, hb.2⟩
      · cases q
  · cases q
theorem am_new_i {f : Option (Nat × Nat × Nat × Nat)} (q : am_new pc l st kr h f = some C) : ∃ ci ps, f = some (ci, ps) ∧ kr.1 < 1000 ∧ (am_shp kr.1).1 = 0 ∧ (am_shp kr.1).2 = ci ∧ am_us kr.1 kr.2 = true ∧ C = (pc, l, .ref kr.1 :: st, (kr.1 + 1, kr.2), am_z h kr.1) := by
  unfold am_new at q
  split at q
  · rename_i ci ps
    cases hb : ((Nat.blt kr.1 1000 && (Nat.beq (am_shp kr.1).1 0 && Nat.beq (am_shp kr.1).2 ci)) && am_us kr.1 kr.2) with
    | false => rw [hb] at q; cases q
    | true =>
      rw [hb] at q
      simp only [Bool.and_eq_true] at hb
      exact ⟨ci, ps, rfl, Nat.le_of_ble_eq_true hb.1.1, Nat.eq_of_beq_eq_true hb.1.2.1, Nat.eq_of_beq_eq_true hb.1.2.2, hb.2, (Option.some.inj q).symm⟩
  · cases q
theorem am_nwa_i {t : Nat} (q : am_nwa pc l st kr h t = some C) : ∃ n r, st = .int n :: r ∧ 0 < t ∧ kr.1 < 1000 ∧ (am_shp kr.1).1 = t ∧ (am_shp kr.1).2 = n.toNatClampNeg ∧ ¬ n < 0 ∧ n.toNatClampNeg < 4000 ∧ C = (pc, l, .ref kr.1 :: r, (kr.1 + 1, kr.2), am_z h kr.1) := by
  unfold am_nwa at q
  split at q
  · rename_i n r
    cases hb : (((Nat.blt 0 t && Nat.blt kr.1 1000) && (Nat.beq (am_shp kr.1).1 t && Nat.beq (am_shp kr.1).2 n.toNatClampNeg)) && (!decide (n < 0) && Nat.blt n.toNatClampNeg 4000)) with
    | false => rw [hb] at q; cases q
    | true =>
      rw [hb] at q
      simp only [Bool.and_eq_true] at hb
      exact ⟨n, r, rfl, Nat.le_of_ble_eq_true hb.1.1.1, Nat.le_of_ble_eq_true hb.1.1.2, Nat.eq_of_beq_eq_true hb.1.2.1, Nat.eq_of_beq_eq_true hb.1.2.2, by simpa using hb.2.1, Nat.le_of_ble_eq_true hb.2.2, (Option.some.inj q).symm⟩
  · cases q
theorem am_dup_i (q : am_dup pc l st kr h = some C) : ∃ v r, st = v :: r ∧ v.category = 1 ∧ C = (pc, l, v :: v :: r, kr, h) := by
  unfold am_dup at q
  split at q
  · rename_i v r
    cases hb : Nat.beq v.category 1 with
    | false => rw [hb] at q; cases q
    | true => rw [hb] at q; exact ⟨v, r, rfl, Nat.eq_of_beq_eq_true hb, (Option.some.inj q).symm⟩
  · cases q
theorem am_pop_i (q : am_pop pc l st kr h = some C) : ∃ v r, st = v :: r ∧ v.category = 1 ∧ C = (pc, l, r, kr, h) := by
  unfold am_pop at q
  split at q
  · rename_i v r
    cases hb : Nat.beq v.category 1 with
    | false => rw [hb] at q; cases q
    | true => rw [hb] at q; exact ⟨v, r, rfl, Nat.eq_of_beq_eq_true hb, (Option.some.inj q).symm⟩
  · cases q
theorem am_dup2_i (q : am_dup2 pc l st kr h = some C) : ∃ v w r, st = v :: w :: r ∧ v.category = 1 ∧ w.category = 1 ∧ C = (pc, l, v :: w :: v :: w :: r, kr, h) := by
  unfold am_dup2 at q
  split at q
  · rename_i v w r
    cases hb : (Nat.beq v.category 1 && Nat.beq w.category 1) with
    | false => rw [hb] at q; cases q
    | true =>
      rw [hb] at q
      rw [Bool.and_eq_true] at hb
      exact ⟨v, w, r, rfl, Nat.eq_of_beq_eq_true hb.1, Nat.eq_of_beq_eq_true hb.2, (Option.some.inj q).symm⟩
  · cases q
theorem am_ldc_i {o i t : Nat} {k : Int} (q : am_ldc pc l st kr h o i t k = some C) : (t = 0 ∧ (∃ ps, am_ic o i = some ps) ∧ C = (pc, l, .int (Int32.ofInt k) :: st, kr, h)) ∨ (t ≠ 0 ∧ 999 < t ∧ t < 1012 ∧ C = (pc, l, .ref t :: st, kr, h)) := by
  unfold am_ldc at q
  cases h0 : Nat.beq t 0 with
  | true =>
    rw [h0, cond_true] at q
    split at q
    · rename_i ps hp
      exact Or.inl ⟨Nat.eq_of_beq_eq_true h0, ⟨ps, hp⟩, (Option.some.inj q).symm⟩
    · cases q
  | false =>
    rw [h0, cond_false] at q
    cases hb : (Nat.blt 999 t && Nat.blt t 1012) with
    | false => rw [hb] at q; cases q
    | true =>
      rw [hb] at q
      rw [Bool.and_eq_true] at hb
      exact Or.inr ⟨Nat.ne_of_beq_eq_false h0, Nat.le_of_ble_eq_true hb.1, Nat.le_of_ble_eq_true hb.2, (Option.some.inj q).symm⟩
theorem am_lc2_i {f : Option (Int64 × Nat)} (q : am_lc2 pc l st kr h f = some C) : ∃ v ps, f = some (v, ps) ∧ C = (pc, l, .long v :: st, kr, h) := by
  unfold am_lc2 at q
  split at q
  · exact ⟨_, _, rfl, (Option.some.inj q).symm⟩
  · cases q
theorem am_gst_i {f : Option Value} (q : am_gst pc l st kr h f = some C) : ∃ v, f = some v ∧ C = (pc, l, v :: st, kr, h) := by
  unfold am_gst at q
  split at q
  · exact ⟨_, rfl, (Option.some.inj q).symm⟩
  · cases q
theorem am_ng_i (q : am_ng pc l st kr h = some C) : ∃ x r, st = .int x :: r ∧ C = (pc, l, .int (-x) :: r, kr, h) := by
  unfold am_ng at q
  split at q
  · exact ⟨_, _, rfl, (Option.some.inj q).symm⟩
  · cases q
theorem am_i2l_i (q : am_i2l pc l st kr h = some C) : ∃ x r, st = .int x :: r ∧ C = (pc, l, .long x.toInt64 :: r, kr, h) := by
  unfold am_i2l at q
  split at q
  · exact ⟨_, _, rfl, (Option.some.inj q).symm⟩
  · cases q
theorem am_l2i_i (q : am_l2i pc l st kr h = some C) : ∃ x r, st = .long x :: r ∧ C = (pc, l, .int x.toInt32 :: r, kr, h) := by
  unfold am_l2i at q
  split at q
  · exact ⟨_, _, rfl, (Option.some.inj q).symm⟩
  · cases q
theorem am_i2c_i (q : am_i2c pc l st kr h = some C) : ∃ x r, st = .int x :: r ∧ C = (pc, l, .int (x.toUInt32 % 65536).toInt32 :: r, kr, h) := by
  unfold am_i2c at q
  split at q
  · exact ⟨_, _, rfl, (Option.some.inj q).symm⟩
  · cases q
theorem am_lsh_i (q : am_lsh pc l st kr h = some C) : ∃ x y r, st = .int y :: .long x :: r ∧ C = (pc, l, .long (x <<< (y.toInt64 &&& 63)) :: r, kr, h) := by
  unfold am_lsh at q
  split at q
  · exact ⟨_, _, _, rfl, (Option.some.inj q).symm⟩
  · cases q
theorem am_cmp_i (q : am_cmp pc l st kr h = some C) : ∃ x y r, st = .long y :: .long x :: r ∧ C = (pc, l, .int (lg_cmp x y) :: r, kr, h) := by
  unfold am_cmp at q
  split at q
  · exact ⟨_, _, _, rfl, (Option.some.inj q).symm⟩
  · cases q
end INV
