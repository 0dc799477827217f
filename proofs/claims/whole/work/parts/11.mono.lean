/-! WHOLE RUNS: what the abstract machine answers, the real one answers -/
section MONO
variable {pc pc0 : Nat} {l : am_LV} {st : List Value} {kr : Nat × Nat} {h : am_H} {C : am_C}
theorem am_ldi_k {v : Option Value} (q : am_ldi pc l st kr h v = some C) : kr.1 ≤ C.2.2.2.1.1 := by
  obtain ⟨_, _, rfl⟩ := am_ldi_i q
  exact Nat.le_refl _
theorem am_ldl_k {v : Option Value} (q : am_ldl pc l st kr h v = some C) : kr.1 ≤ C.2.2.2.1.1 := by
  obtain ⟨_, _, rfl⟩ := am_ldl_i q
  exact Nat.le_refl _
theorem am_lda_k {v : Option Value} (q : am_lda pc l st kr h v = some C) : kr.1 ≤ C.2.2.2.1.1 := by
  obtain ⟨_, _, rfl⟩ := am_lda_i q
  exact Nat.le_refl _
theorem am_sti_k {n i : Nat} (q : am_sti pc l st kr h n i = some C) : kr.1 ≤ C.2.2.2.1.1 := by
  obtain ⟨_, _, _, _, rfl⟩ := am_sti_i q
  exact Nat.le_refl _
theorem am_sta_k {n i : Nat} (q : am_sta pc l st kr h n i = some C) : kr.1 ≤ C.2.2.2.1.1 := by
  obtain ⟨_, _, _, _, rfl⟩ := am_sta_i q
  exact Nat.le_refl _
theorem am_stl_k {n i : Nat} (q : am_stl pc l st kr h n i = some C) : kr.1 ≤ C.2.2.2.1.1 := by
  obtain ⟨_, _, _, _, rfl⟩ := am_stl_i q
  exact Nat.le_refl _
theorem am_b2_k {f : Int32 → Int32 → Int32} (q : am_b2 pc l st kr h f = some C) : kr.1 ≤ C.2.2.2.1.1 := by
  obtain ⟨_, _, _, _, rfl⟩ := am_b2_i q
  exact Nat.le_refl _
theorem am_l2_k {f : Int64 → Int64 → Int64} (q : am_l2 pc l st kr h f = some C) : kr.1 ≤ C.2.2.2.1.1 := by
  obtain ⟨_, _, _, _, rfl⟩ := am_l2_i q
  exact Nat.le_refl _
theorem am_d2_k {f : Int32 → Int32 → Int32} (q : am_d2 pc l st kr h f = some C) : kr.1 ≤ C.2.2.2.1.1 := by
  obtain ⟨_, _, _, _, _, rfl⟩ := am_d2_i q
  exact Nat.le_refl _
theorem am_bz_k {g : Int32 → Bool} {tg : Nat} (q : am_bz pc l st kr h g tg = some C) : kr.1 ≤ C.2.2.2.1.1 := by
  obtain ⟨_, _, _, rfl⟩ := am_bz_i q
  exact Nat.le_refl _
theorem am_bi_k {g : Int32 → Int32 → Bool} {tg : Nat} (q : am_bi pc l st kr h g tg = some C) : kr.1 ≤ C.2.2.2.1.1 := by
  obtain ⟨_, _, _, _, rfl⟩ := am_bi_i q
  exact Nat.le_refl _
theorem am_inc_k {v : Option Value} {i n : Nat} {k : Int} (q : am_inc pc l st kr h v i n k = some C) : kr.1 ≤ C.2.2.2.1.1 := by
  obtain ⟨_, _, _, rfl⟩ := am_inc_i q
  exact Nat.le_refl _
theorem am_iald_k  (q : am_iald pc l st kr h  = some C) : kr.1 ≤ C.2.2.2.1.1 := by
  obtain ⟨_, _, _, _, _, _, _, _, rfl⟩ := am_iald_i q
  exact Nat.le_refl _
theorem am_cald_k  (q : am_cald pc l st kr h  = some C) : kr.1 ≤ C.2.2.2.1.1 := by
  obtain ⟨_, _, _, _, _, _, _, _, rfl⟩ := am_cald_i q
  exact Nat.le_refl _
theorem am_lald_k  (q : am_lald pc l st kr h  = some C) : kr.1 ≤ C.2.2.2.1.1 := by
  obtain ⟨_, _, _, _, _, _, _, _, rfl⟩ := am_lald_i q
  exact Nat.le_refl _
theorem am_bald_k  (q : am_bald pc l st kr h  = some C) : kr.1 ≤ C.2.2.2.1.1 := by
  obtain ⟨_, _, _, _, _, _, _, rfl⟩ := am_bald_i q
  exact Nat.le_refl _
theorem am_iast_k  (q : am_iast pc l st kr h  = some C) : kr.1 ≤ C.2.2.2.1.1 := by
  obtain ⟨_, _, _, _, _, _, _, _, _, rfl⟩ := am_iast_i q
  exact Nat.le_refl _
theorem am_cast_k  (q : am_cast pc l st kr h  = some C) : kr.1 ≤ C.2.2.2.1.1 := by
  obtain ⟨_, _, _, _, _, _, _, _, _, rfl⟩ := am_cast_i q
  exact Nat.le_refl _
theorem am_last_k  (q : am_last pc l st kr h  = some C) : kr.1 ≤ C.2.2.2.1.1 := by
  obtain ⟨_, _, _, _, _, _, _, _, _, rfl⟩ := am_last_i q
  exact Nat.le_refl _
theorem am_alen_k  (q : am_alen pc l st kr h  = some C) : kr.1 ≤ C.2.2.2.1.1 := by
  obtain ⟨_, _, _, _, _, rfl⟩ := am_alen_i q
  exact Nat.le_refl _
theorem am_dup_k  (q : am_dup pc l st kr h  = some C) : kr.1 ≤ C.2.2.2.1.1 := by
  obtain ⟨_, _, _, _, rfl⟩ := am_dup_i q
  exact Nat.le_refl _
theorem am_pop_k  (q : am_pop pc l st kr h  = some C) : kr.1 ≤ C.2.2.2.1.1 := by
  obtain ⟨_, _, _, _, rfl⟩ := am_pop_i q
  exact Nat.le_refl _
theorem am_dup2_k  (q : am_dup2 pc l st kr h  = some C) : kr.1 ≤ C.2.2.2.1.1 := by
  obtain ⟨_, _, _, _, _, _, rfl⟩ := am_dup2_i q
  exact Nat.le_refl _
theorem am_lc2_k {f : Option (Int64 × Nat)} (q : am_lc2 pc l st kr h f = some C) : kr.1 ≤ C.2.2.2.1.1 := by
  obtain ⟨_, _, _, rfl⟩ := am_lc2_i q
  exact Nat.le_refl _
theorem am_gst_k {f : Option Value} (q : am_gst pc l st kr h f = some C) : kr.1 ≤ C.2.2.2.1.1 := by
  obtain ⟨_, _, rfl⟩ := am_gst_i q
  exact Nat.le_refl _
theorem am_ng_k  (q : am_ng pc l st kr h  = some C) : kr.1 ≤ C.2.2.2.1.1 := by
  obtain ⟨_, _, _, rfl⟩ := am_ng_i q
  exact Nat.le_refl _
theorem am_i2l_k  (q : am_i2l pc l st kr h  = some C) : kr.1 ≤ C.2.2.2.1.1 := by
  obtain ⟨_, _, _, rfl⟩ := am_i2l_i q
  exact Nat.le_refl _
theorem am_l2i_k  (q : am_l2i pc l st kr h  = some C) : kr.1 ≤ C.2.2.2.1.1 := by
  obtain ⟨_, _, _, rfl⟩ := am_l2i_i q
  exact Nat.le_refl _
theorem am_i2c_k  (q : am_i2c pc l st kr h  = some C) : kr.1 ≤ C.2.2.2.1.1 := by
  obtain ⟨_, _, _, rfl⟩ := am_i2c_i q
  exact Nat.le_refl _
theorem am_lsh_k  (q : am_lsh pc l st kr h  = some C) : kr.1 ≤ C.2.2.2.1.1 := by
  obtain ⟨_, _, _, _, rfl⟩ := am_lsh_i q
  exact Nat.le_refl _
theorem am_cmp_k  (q : am_cmp pc l st kr h  = some C) : kr.1 ≤ C.2.2.2.1.1 := by
  obtain ⟨_, _, _, _, rfl⟩ := am_cmp_i q
  exact Nat.le_refl _
theorem am_new_k {f : Option (Nat × Nat × Nat × Nat)} (q : am_new pc l st kr h f = some C) : kr.1 ≤ C.2.2.2.1.1 := by
  obtain ⟨_, _, _, _, _, _, _, rfl⟩ := am_new_i q
  exact Nat.le_succ _
theorem am_nwa_k {tk : Nat} (q : am_nwa pc l st kr h tk = some C) : kr.1 ≤ C.2.2.2.1.1 := by
  obtain ⟨_, _, _, _, _, _, _, _, _, rfl⟩ := am_nwa_i q
  exact Nat.le_succ _
theorem am_sw_k {d lo hi : Int} {o : Array Int} (q : am_sw l st kr h pc0 d lo hi o = some C) : kr.1 ≤ C.2.2.2.1.1 := by
  obtain ⟨_, _, _, _, _, rfl, _⟩ := am_sw_i q
  exact Nat.le_refl _
theorem am_gf_k {f : Option (Nat × Nat × Nat × Nat)} (q : am_gf pc l st kr h f = some C) : kr.1 ≤ C.2.2.2.1.1 := by
  obtain ⟨_, _, _, _, _, _, _, _, ⟨_, _, _, rfl⟩ | ⟨_, _, ⟨_, _, rfl⟩ | ⟨_, rfl⟩⟩⟩ := am_gf_i q <;> exact Nat.le_refl _
theorem am_pf_k {ini : Bool} {o : Nat} {f : Option (Nat × Nat × Nat × Nat)} (q : am_pf pc l st kr h ini o f = some C) : kr.1 ≤ C.2.2.2.1.1 := by
  obtain ⟨_, _, _, _, _, _, _, _, ⟨_, _, _, rfl⟩ | ⟨_, _, _, _, _, _, _, _, rfl⟩⟩ := am_pf_i q <;> exact Nat.le_refl _
theorem am_ldc_k {o i tg : Nat} {k : Int} (q : am_ldc pc l st kr h o i tg k = some C) : kr.1 ≤ C.2.2.2.1.1 := by
  rcases am_ldc_i q with ⟨_, _, rfl⟩ | ⟨_, _, _, rfl⟩ <;> exact Nat.le_refl _
set_option maxRecDepth 20000 in
theorem am_stp_k {md : am_MD} {e : am_E} (q : am_stp md e pc l st kr h = some C) : kr.1 ≤ C.2.2.2.1.1 := by
  obtain ⟨ins, tg, k⟩ := e
  cases ins with
  | iadd => exact am_b2_k q
  | isub => exact am_b2_k q
  | imul => exact am_b2_k q
  | iand => exact am_b2_k q
  | ior => exact am_b2_k q
  | ishl => exact am_b2_k q
  | ishr => exact am_b2_k q
  | idiv => exact am_d2_k q
  | irem => exact am_d2_k q
  | ineg => exact am_ng_k q
  | land => exact am_l2_k q
  | lor => exact am_l2_k q
  | lshl => exact am_lsh_k q
  | lcmp => exact am_cmp_k q
  | i2l => exact am_i2l_k q
  | l2i => exact am_l2i_k q
  | i2c => exact am_i2c_k q
  | dup => exact am_dup_k q
  | dup2 => exact am_dup2_k q
  | pop => exact am_pop_k q
  | iaload => exact am_iald_k q
  | caload => exact am_cald_k q
  | laload => exact am_lald_k q
  | baload => exact am_bald_k q
  | iastore => exact am_iast_k q
  | castore => exact am_cast_k q
  | lastore => exact am_last_k q
  | arraylength => exact am_alen_k q
  | aload_n i => exact am_lda_k q
  | aload i => exact am_lda_k q
  | iload_n i => exact am_ldi_k q
  | iload i => exact am_ldi_k q
  | lload_n i => exact am_ldl_k q
  | lload i => exact am_ldl_k q
  | getfield i => exact am_gf_k q
  | putfield i => exact am_pf_k q
  | getstatic i => exact am_gst_k q
  | iinc i n => exact am_inc_k q
  | ifCond c f => exact am_bz_k q
  | if_icmp c f => exact am_bi_k q
  | tableswitch d lo hi o => exact am_sw_k q
  | istore_n i => exact am_sti_k q
  | istore i => exact am_sti_k q
  | astore_n i => exact am_sta_k q
  | astore i => exact am_sta_k q
  | lstore i => exact am_stl_k q
  | new i => exact am_new_k q
  | newarray a => exact am_nwa_k q
  | ldc i => exact am_ldc_k q
  | ldc2_w i => exact am_lc2_k q
  | iconst n => exact (Option.some.inj (show some _ = some C from q)) ▸ Nat.le_refl _
  | bipush n => exact (Option.some.inj (show some _ = some C from q)) ▸ Nat.le_refl _
  | sipush n => exact (Option.some.inj (show some _ = some C from q)) ▸ Nat.le_refl _
  | lconst n => exact (Option.some.inj (show some _ = some C from q)) ▸ Nat.le_refl _
  | goto f => exact (Option.some.inj (show some _ = some C from q)) ▸ Nat.le_refl _
  | _ => exact absurd (show (none : Option am_C) = some C from q) (fun z => by cases z)
end MONO
theorem am_exec_k : ∀ (n d : Nat) (md : am_MD) (pc : Nat) (l : am_LV) (st : List Value) (kr : Nat × Nat) (h : am_H) (rv : Option Value) (kr' : Nat × Nat) (h' : am_H), am_exec n d md pc l st kr h = some (rv, kr', h') → kr.1 ≤ kr'.1 := by
  intro n
  induction n with
  | zero => intro d md pc l st kr h rv kr' h' q; cases q
  | succ n ih =>
    intro d md pc l st kr h rv kr' h' q
    unfold am_exec at q
    split at q
    · cases q
    · rename_i e he
      split at q
      · split at q
        · rename_i pc1 l1 st1 kr1 h1 hs
          exact Nat.le_trans (am_stp_k hs) (ih _ _ _ _ _ _ _ _ _ _ q)
        · cases q
      · split at q
        · cases q; exact Nat.le_refl _
        · cases q
      · split at q
        · cases q
        · split at q
          · exact ih _ _ _ _ _ _ _ _ _ _ q
          · rename_i md1 As rest hc
            cases hb : Nat.ble (am_sum As) (am_L md1) with
            | false => rw [hb] at q; cases q
            | true =>
              rw [hb, cond_true] at q
              split at q
              · rename_i rv1 kr1 h1 hx
                exact Nat.le_trans (ih _ _ _ _ _ _ _ _ _ _ hx) (ih _ _ _ _ _ _ _ _ _ _ q)
              · cases q
          · cases q
theorem am_take_i : ∀ (n : Nat) (st acc As rest : List Value), am_take n st acc = some (As, rest) → ∃ xs : List Value, As = xs.reverse ++ acc ∧ st = xs ++ rest ∧ xs.length = n := by
  intro n
  induction n with
  | zero => intro st acc As rest q; cases q; exact ⟨[], rfl, rfl, rfl⟩
  | succ n ih =>
    intro st acc As rest q
    cases st with
    | nil => cases q
    | cons v st =>
      obtain ⟨xs, h1, h2, h3⟩ := ih st (v :: acc) As rest q
      refine ⟨v :: xs, ?_, ?_, ?_⟩
      · rw [h1, List.reverse_cons, List.append_assoc]; rfl
      · rw [h2]; rfl
      · rw [List.length_cons, h3]
theorem am_take_s {n : Nat} {st As rest : List Value} (q : am_take n st [] = some (As, rest)) : st = As.reverse ++ rest ∧ As.length = n := by
  obtain ⟨xs, h1, h2, h3⟩ := am_take_i n st [] As rest q
  rw [List.append_nil] at h1
  subst h1
  rw [List.reverse_reverse, List.length_reverse]
  exact ⟨h2, h3⟩
section CALLI
variable {md md' : am_MD} {k x : Nat} {st As rest : List Value} {fl : Bool}
theorem am_call_v (q : am_call md (.invokevirtual x) k st = some (fl, md', As, rest)) : ∃ M n tl c As', am_ca (am_O md) x = some (0, M, n, tl) ∧ fl = false ∧ md' = am_meth M ∧ As = .ref c :: As' ∧ st = As'.reverse ++ .ref c :: rest ∧ As'.length = n ∧ am_rcv k c (am_O (am_meth M)) = true ∧ am_sum rest ≤ 8 := by
  dsimp only [am_call] at q
  split at q
  · rename_i M n tl hca
    split at q
    · rename_i As' c rest' htk
      cases hb : (am_rcv k c (am_O (am_meth M)) && Nat.ble (am_sum rest') 8) with
      | false => rw [hb] at q; cases q
      | true =>
        rw [hb, cond_true] at q
        cases q
        obtain ⟨h1, h2⟩ := am_take_s htk
        rw [Bool.and_eq_true] at hb
        exact ⟨M, n, tl, c, As', hca, rfl, rfl, rfl, h1, h2, hb.1, Nat.le_of_ble_eq_true hb.2⟩
    · cases q
  · cases q
theorem am_call_s (q : am_call md (.invokestatic x) k st = some (fl, md', As, rest)) :
    (∃ M n tl, (am_ca (am_O md) x = some (1, M, n, tl) ∨ am_ca (am_O md) x = some (2, M, n, tl)) ∧ fl = false ∧ md' = am_meth M ∧ st = As.reverse ++ rest ∧ As.length = n ∧ am_sum rest ≤ 8) ∨
    (∃ tl a y r, fl = true ∧ st = .int y :: .int a :: r ∧ am_sum r ≤ 8 ∧ ((am_ca (am_O md) x = some (5, tl) ∧ rest = .int (if y < a then y else a) :: r) ∨ (am_ca (am_O md) x = some (6, tl) ∧ rest = .int (if a < y then y else a) :: r))) := by
  dsimp only [am_call] at q
  split at q
  · rename_i M n tl hca
    split at q
    · rename_i As' rest' htk
      cases hb : Nat.ble (am_sum rest') 8 with
      | false => rw [hb] at q; cases q
      | true =>
        rw [hb, cond_true] at q
        cases q
        obtain ⟨h1, h2⟩ := am_take_s htk
        exact Or.inl ⟨M, n, tl, Or.inl hca, rfl, rfl, h1, h2, Nat.le_of_ble_eq_true hb⟩
    · cases q
  · rename_i M n tl hca
    split at q
    · rename_i As' rest' htk
      cases hb : Nat.ble (am_sum rest') 8 with
      | false => rw [hb] at q; cases q
      | true =>
        rw [hb, cond_true] at q
        cases q
        obtain ⟨h1, h2⟩ := am_take_s htk
        exact Or.inl ⟨M, n, tl, Or.inr hca, rfl, rfl, h1, h2, Nat.le_of_ble_eq_true hb⟩
    · cases q
  · rename_i tl hca
    split at q
    · rename_i y a r
      cases hb : Nat.ble (am_sum r) 8 with
      | false => rw [hb] at q; cases q
      | true =>
        rw [hb, cond_true] at q
        cases q
        exact Or.inr ⟨tl, a, y, r, rfl, rfl, Nat.le_of_ble_eq_true hb, Or.inl ⟨hca, rfl⟩⟩
    · cases q
  · rename_i tl hca
    split at q
    · rename_i y a r
      cases hb : Nat.ble (am_sum r) 8 with
      | false => rw [hb] at q; cases q
      | true =>
        rw [hb, cond_true] at q
        cases q
        exact Or.inr ⟨tl, a, y, r, rfl, rfl, Nat.le_of_ble_eq_true hb, Or.inr ⟨hca, rfl⟩⟩
    · cases q
  · cases q
theorem am_call_p (q : am_call md (.invokespecial x) k st = some (fl, md', As, rest)) :
    (∃ M n tl c As', am_ca (am_O md) x = some (3, M, n, tl) ∧ fl = false ∧ md' = am_meth M ∧ As = .ref c :: As' ∧ st = As'.reverse ++ .ref c :: rest ∧ As'.length = n ∧ c < 1000 ∧ c < k ∧ am_sum rest ≤ 8) ∨
    (∃ tl c, am_ca (am_O md) x = some (4, tl) ∧ fl = true ∧ st = .ref c :: rest ∧ c < 1000 ∧ am_sum rest ≤ 8) := by
  dsimp only [am_call] at q
  split at q
  · rename_i M n tl hca
    split at q
    · rename_i As' c rest' htk
      cases hb : ((Nat.blt c 1000 && Nat.blt c k) && Nat.ble (am_sum rest') 8) with
      | false => rw [hb] at q; cases q
      | true =>
        rw [hb, cond_true] at q
        cases q
        obtain ⟨h1, h2⟩ := am_take_s htk
        simp only [Bool.and_eq_true] at hb
        exact Or.inl ⟨M, n, tl, c, As', hca, rfl, rfl, rfl, h1, h2, Nat.le_of_ble_eq_true hb.1.1, Nat.le_of_ble_eq_true hb.1.2, Nat.le_of_ble_eq_true hb.2⟩
    · cases q
  · rename_i tl hca
    split at q
    · rename_i c rest'
      cases hb : (Nat.blt c 1000 && Nat.ble (am_sum rest') 8) with
      | false => rw [hb] at q; cases q
      | true =>
        rw [hb, cond_true] at q
        cases q
        rw [Bool.and_eq_true] at hb
        exact Or.inr ⟨tl, c, hca, rfl, rfl, Nat.le_of_ble_eq_true hb.1, Nat.le_of_ble_eq_true hb.2⟩
    · cases q
  · cases q
end CALLI
theorem am_ret_i {md : am_MD} {i : Instr} {st : List Value} {rv : Option Value} (q : am_ret md i st = some rv) : (∃ x ty, i = .ireturn ∧ st = [.int x] ∧ am_R md = some ty ∧ am_fit ty x = true ∧ rv = some (.int x)) ∨ (∃ x, i = .lreturn ∧ st = [.long x] ∧ am_isl (am_R md) = true ∧ rv = some (.long x)) ∨ (∃ x, i = .areturn ∧ st = [.ref x] ∧ am_isr (am_R md) = true ∧ rv = some (.ref x)) ∨ (i = .return_ ∧ st = [] ∧ am_R md = none ∧ rv = none) := by
  unfold am_ret at q
  split at q
  · rename_i x
    split at q
    · rename_i ty hr
      cases hb : am_fit ty x with
      | false => rw [hb] at q; cases q
      | true => rw [hb, cond_true] at q; exact Or.inl ⟨x, ty, rfl, rfl, hr, hb, (Option.some.inj q).symm⟩
    · cases q
  · rename_i x
    cases hb : am_isl (am_R md) with
    | false => rw [hb] at q; cases q
    | true => rw [hb, cond_true] at q; exact Or.inr (Or.inl ⟨x, rfl, rfl, rfl, (Option.some.inj q).symm⟩)
  · rename_i x
    cases hb : am_isr (am_R md) with
    | false => rw [hb] at q; cases q
    | true => rw [hb, cond_true] at q; exact Or.inr (Or.inr (Or.inl ⟨x, rfl, rfl, rfl, (Option.some.inj q).symm⟩))
  · split at q
    · rename_i hr
      exact Or.inr (Or.inr (Or.inr ⟨rfl, rfl, hr, (Option.some.inj q).symm⟩))
    · cases q
  · cases q
theorem am_fit_n {ty : FieldType} {x : Int32} (h : am_fit ty x = true) : narrow ty (.int x) = .int x := by
  cases ty with
  | int => rfl
  | boolean =>
    rcases (Bool.or_eq_true _ _ ▸ h : decide (x = 0) = true ∨ decide (x = 1) = true) with z | z <;> (rw [of_decide_eq_true z]; rfl)
  | byte => show Value.int _ = _; rw [of_decide_eq_true (show decide (x.toInt8.toInt32 = x) = true from h)]
  | char => show Value.int _ = _; rw [of_decide_eq_true (show decide (x.toUInt32.toUInt16.toUInt32.toInt32 = x) = true from h)]
  | _ => cases h
