/-! STEPS: fields, statics, constants, new cells; all steps -/
theorem am_dd2 {P : Prop} {x : Bool} {hP : Decidable P} (h : (decide P && x) = true) : x = true := (Bool.and_eq_true _ _ ▸ h).2
theorem am_a2 {x y : Bool} (h : (x && y) = true) : x = true ∧ y = true := Bool.and_eq_true _ _ ▸ h
theorem am_sub00 {c : Nat} (h1 : 999 < c) (h2 : c < 1012) : c - 1000 < 12 ∧ 1000 + (c - 1000) = c ∧ 1000 ≤ c ∧ 1020 + (c - 1000) = c + 20 ∧ 1000 ≤ c + 20 := by omega
theorem am_fok_o {o i ci k t ps : Nat} (hk : am_fok o i (ci, k, t, ps) = true) (ht : t ≠ 3) : ci < 12 ∧ k < am_nf ci ∧ (Jvm.Cond.fieldLink (am_cn o) i (am_TX ci k).1 (am_TX ci k).2.1 (am_TX ci k).2.2.1 ∈ am_W) ∧ (am_TX ci k).1 = am_cn ci ∧ (am_TX ci k).2.2.2 = Nat.beq t 2 ∧
    (t = 0 → am_tX ci k = .int) ∧ (t = 1 → am_tX ci k = .boolean) ∧ (t = 2 → am_isr (some (am_tX ci k)) = true) ∧ ∀ c, (am_shp c).1 = 0 → (am_shp c).2 = ci → (t = 2 → (am_rt c k).2 ≠ 1000) ∧ (t ≠ 2 → (am_rt c k).2 = 1000) := by
  unfold am_fok at hk
  have h3 : Nat.beq t 3 = false := by
    cases z : Nat.beq t 3 with
    | false => rfl
    | true => exact absurd (Nat.eq_of_beq_eq_true z) ht
  dsimp only at hk
  rw [h3, cond_false] at hk
  obtain ⟨h1, h2⟩ := am_a2 hk
  obtain ⟨h4, h5⟩ := am_a2 h1
  obtain ⟨h6, h7⟩ := am_a2 h4
  obtain ⟨h8, h9⟩ := am_a2 h5
  obtain ⟨h10, h11⟩ := am_a2 h2
  obtain ⟨h12, h13⟩ := am_a2 h10
  obtain ⟨h14, h15⟩ := am_a2 h12
  refine ⟨Nat.le_of_ble_eq_true h6, Nat.le_of_ble_eq_true h7, am_Win (am_at_in h9) rfl, of_decide_eq_true h14, of_decide_eq_true h15, fun z => ?_, fun z => ?_, fun z => ?_, fun c c1 c2 => ?_⟩
  · subst z; exact of_decide_eq_true h13
  · subst z; exact of_decide_eq_true h13
  · subst z; exact h13
  · have hc : c < 78 := am_shp_lt (by rw [c1]; decide)
    have h16 := List.all_eq_true.mp h11 c (List.mem_range.mpr hc)
    rw [c1, c2, Nat.beq_refl, Nat.beq_refl] at h16
    have h17 : Nat.beq (am_rt c k).2 1000 = !Nat.beq t 2 := of_decide_eq_true h16
    refine ⟨fun z q => ?_, fun z => ?_⟩
    · subst z
      rw [q] at h17
      cases h17
    · have h18 : Nat.beq t 2 = false := by
        cases y : Nat.beq t 2 with
        | false => rfl
        | true => exact absurd (Nat.eq_of_beq_eq_true y) z
      rw [h18] at h17
      exact Nat.eq_of_beq_eq_true h17
theorem am_isr_i {y : FieldType} (h : am_isr (some y) = true) : (∃ n, y = .object n) ∨ ∃ z, y = .array z := by
  cases y with
  | object n => exact Or.inl ⟨n, rfl⟩
  | array z => exact Or.inr ⟨z, rfl⟩
  | _ => cases h
section STEP
variable {p : Program} {l0 : Launch} {e0 : Env} {R : Room} {s : State} {m : MethodId} {args : Array Value} {below : List Frame} {meth : Method} {c : Code} {H : Heap} {locs : List Loc} {cells slots : Nat} {Q : State → Prop}
variable {D : va_G} {ty : Nat → ClassId} {b : Nat} {sp : Nat → Option Nat} {xs : Nat → Int32} {L : Nat} {md : am_MD} {pc : Nat} {l : am_LV} {st : List Value} {kr : Nat × Nat} {h : am_H} {ls : Array Slot} {C : am_C}
theorem am_s_getfield {i : Nat} (F : am_Fx p s m args meth c D ty b sp xs L md) (X : am_St s D ty b sp xs L md H locs ls l kr h) (hdg : decode (am_B md) pc = .ok (.getfield i, 3)) (hs : am_gf (pc + 3) l st kr h (am_ft (am_O md) i) = some C) (kk : am_KK p l0 e0 R s m args below meth c cells slots Q D ty b sp xs L md kr C) : W p l0 e0 R s m args below meth c H locs cells slots Q (F0 m pc ls (st.map (am_cv b sp))) := by
  obtain ⟨⟨hx, hb, hml, hown⟩, hts, hK, hE, hok, hini, hL⟩ := id F
  obtain ⟨ci, k, t, ps, cc, r, hf, rfl, hh⟩ := am_gf_i hs
  have hk := am_ft_ok hf
  rw [List.map_cons]
  rcases hh with ⟨rfl, c1, c2, rfl⟩ | ⟨ht, hob, hh⟩
  · have h2 := am_k0 kk rfl X
    rw [List.map_cons] at h2
    obtain ⟨z1, z2, z3, z4, z5⟩ := am_sub00 c1 c2
    obtain ⟨w, hw⟩ := am_st12 z1
    obtain ⟨a, v, f1, f2, f3, f4, f5, f6, f7⟩ := hE.2.2.2.2.2.1 _ _ hw
    rw [z2] at f1
    rw [z4] at f2
    rw [am_cv_ge z3 f1]
    have hk2 : (Nat.beq ci 14 && (bif Nat.beq k 0 then am_at ps (.fieldLink (am_cn (am_O md)) i "java/lang/String" "value" "[B") else am_at ps (.fieldLink (am_cn (am_O md)) i "java/lang/String" "coder" "B"))) = true := hk
    cases hk0 : Nat.beq k 0 with
    | true =>
      rw [hk0] at hk2 h2
      rw [cond_true] at hk2 h2
      rw [am_cv_ge z5 f2] at h2
      exact vk_getf hx hb f6 X.2.1 hown (hts _ (am_Win (am_at_in (am_a2 hk2).2) rfl)) (fun _ q => q) hdg h2
    | false =>
      rw [hk0] at hk2 h2
      rw [cond_false] at hk2 h2
      exact vk_getf hx hb f5 X.2.1 hown (hts _ (am_Win (am_at_in (am_a2 hk2).2) rfl)) (fun _ q => q) hdg h2
  · obtain ⟨c1, c2, c3, c4⟩ := am_ob_s hob
    obtain ⟨g1, g2, g3, g4, g5, g6, g7, g8, g9⟩ := am_fok_o hk ht
    obtain ⟨v1, v2, v3, v4⟩ := am_cls ci g1
    have hce := (X.1.2.2 cc c2).1 c3
    rw [c4] at hce
    obtain ⟨cell, q1, q2, q3, q4⟩ := hce
    obtain ⟨hS, hfc, kC, hkC, hkind⟩ := hK.1 ci _ v1
    obtain ⟨cf, kf, fi, f, hi, hsl⟩ := hS k g2
    rw [am_cv_lt c1]
    refine W.getf hx hb hown (hts _ g3) hi (u_facts hfc hkC (u_lays hts v2 g2) hi).1 q1 (by rw [q3]; exact fun h => by cases h) (v := am_fv b kr h cc k) (by rw [hsl, q4 k g2]) rfl rfl hdg ?_
    rcases hh with ⟨rfl, h5, rfl⟩ | ⟨h5, rfl⟩
    · have h2 := am_k0 kk rfl X
      have n1 := (g9 cc c3 c4).1 rfl
      have e1 : am_fv b kr h cc k = .ref (b + (am_rt cc k).1) := by
        unfold am_fv
        rw [show Nat.beq (am_rt cc k).2 1000 = false from Bool.eq_false_iff.mpr (fun z => n1 (Nat.eq_of_beq_eq_true z)), cond_false, show Nat.blt (am_rt cc k).2 kr.2 = true from Nat.ble_eq_true_of_le h5, cond_true]
      rw [e1]
      rw [List.map_cons, am_cv_lt ((am_rt_or cc k).resolve_left n1).2] at h2
      exact h2
    · have h2 := am_k0 kk rfl X
      have n1 := (g9 cc c3 c4).2 h5
      have e1 : am_fv b kr h cc k = .int (h.1 cc k) := by
        unfold am_fv
        rw [n1]
        rfl
      rw [e1]
      exact h2
theorem am_s_putfield {i : Nat} (F : am_Fx p s m args meth c D ty b sp xs L md) (X : am_St s D ty b sp xs L md H locs ls l kr h) (hdg : decode (am_B md) pc = .ok (.putfield i, 3)) (hs : am_pf (pc + 3) l st kr h (am_N md) (am_O md) (am_ft (am_O md) i) = some C) (kk : am_KK p l0 e0 R s m args below meth c cells slots Q D ty b sp xs L md kr C) : W p l0 e0 R s m args below meth c H locs cells slots Q (F0 m pc ls (st.map (am_cv b sp))) := by
  obtain ⟨⟨hx, hb, hml, hown⟩, hts, hK, hE, hok, hini, hL⟩ := id F
  obtain ⟨ci, k, t, ps, cc, r, hf, hob, hh⟩ := am_pf_i hs
  have hk := am_ft_ok hf
  have ht : t ≠ 3 := by
    rcases hh with ⟨x, -, h5, -⟩ | ⟨x, -, h5, -⟩ <;> omega
  obtain ⟨c1, c2, c3, c4⟩ := am_ob_s hob
  obtain ⟨g1, g2, g3, g4, g5, g6, g7, g8, g9⟩ := am_fok_o hk ht
  obtain ⟨v1, v2, v3, v4⟩ := am_cls ci g1
  have hce := (X.1.2.2 cc c2).1 c3
  rw [c4] at hce
  obtain ⟨cell, q1, q2, q3, q4⟩ := hce
  obtain ⟨hS, hfc, kC, hkC, hkind⟩ := hK.1 ci _ v1
  obtain ⟨cf, kf, fi, f, hi, hsl⟩ := hS k g2
  have hap := va_apart (own := am_cn (am_O md)) hts v2 (am_tX ci) v3 v4 hK v1
  have hlay := hts _ (v2 _ (u_in_lay g2))
  unfold u_lay at hlay
  have hst := (u_facts hfc hkC (u_lays hts v2 g2) hi).1
  rcases hh with ⟨x, rfl, h5, rfl⟩ | ⟨x, rfl, h5, h6, h7, h8, h9, h10, rfl⟩
  · have h2 : t ≠ 2 := by omega
    rw [List.map_cons, List.map_cons, am_cv_lt c1]
    rw [if_neg (by rw [g5]; exact fun z => h2 (Nat.eq_of_beq_eq_true z))] at hlay
    have hn : narrow (am_tX ci k) (.int x) = .int x ∧ fits (am_tX ci k) (.int x) = true := by
      rcases h5 with h5 | ⟨h5, h6⟩
      · rw [g6 h5]; exact ⟨rfl, rfl⟩
      · rw [g7 h5]
        rcases h6 with rfl | rfl <;> exact ⟨rfl, rfl⟩
    have h6 := u_store hfc hkC hkind hlay hi (v3 k g2) hn.1 hn.2
    refine W.putK hx hb (f := f) ⟨hown, hts _ g3, ⟨_, _, _, hi⟩, hst⟩ (by rw [q2]; exact h6) q1 q3 (by rw [hsl]; exact k2_hasslot (q4 k g2)) rfl rfl hdg fun H' e1 e2 e3 => ?_
    rw [hsl] at e1 ⊢
    refine am_k0 kk rfl ⟨X.1.one c2 (fun c' z => am_wr_ne z) (fun c' _ => rfl) rfl (fun c' _ k' => rfl) e2 e3 ⟨fun _ => ?_, fun z => ?_, fun z => ?_, fun z => ?_⟩, X.2.1.put e2 e3 (Nat.le_add_right _ _), X.2.2⟩
    · rw [c4]
      exact t_OB.to (V := updV (am_fv b kr h cc) k (.int x)) ⟨_, e1, q2, q3, t_set q4 hap g2 (.int x)⟩ (fun j _ => am_fv_put k x ((g9 cc c3 c4).2 h2) j)
    · rw [c3] at z; cases z
    · rw [c3] at z; cases z
    · rw [c3] at z; cases z
  · subst h5
    subst h8
    rw [List.map_cons, List.map_cons, am_cv_lt c1, am_cv_lt h10]
    rw [if_pos (by rw [g5]; rfl)] at hlay
    have hcf : m.cls = cf := by
      obtain ⟨_, _, c', _, _, _, -, -, hf', -, -, -, hown2, -⟩ := Cond.laysFinal_spec hlay
      have e1 : c' = cf := by have := hi.symm.trans hf'; simp at this; exact this.1.symm
      rw [g4, ← h7] at hown2
      rw [← e1]; exact Option.some.inj (hown.symm.trans hown2)
    have hn : narrow (am_tX ci k) (.ref (b + (am_rt cc k).1)) = .ref (b + (am_rt cc k).1) ∧ fits (am_tX ci k) (.ref (b + (am_rt cc k).1)) = true := by
      rcases am_isr_i (g8 rfl) with ⟨n, e⟩ | ⟨n, e⟩ <;> rw [e] <;> exact ⟨rfl, rfl⟩
    have h11 := u_fits hfc hkC hkind (Or.inr hlay) hi (v3 k g2) hn.1 hn.2
    refine W.putFinK hx hb hown (hts _ g3) hi hst hcf (hini h6) (by rw [q2]; exact h11) q1 q3 (by rw [hsl]; exact k2_hasslot (q4 k g2)) rfl rfl hdg fun H' e1 e2 e3 => ?_
    rw [hsl] at e1 ⊢
    have n1 := (g9 cc c3 c4).1 rfl
    refine am_k0 kk rfl ⟨X.1.one c2 (fun c' _ => rfl) (fun c' _ => rfl) rfl (fun c' z k' => am_fv_ref k h9.symm n1 c' k' (fun y => z y.1)) e2 e3 ⟨fun _ => ?_, fun z => ?_, fun z => ?_, fun z => ?_⟩, X.2.1.put e2 e3 (Nat.le_add_right _ _), X.2.2⟩
    · rw [c4]
      exact t_OB.to (V := updV (am_fv b kr h cc) k (.ref (b + (am_rt cc k).1))) ⟨_, e1, q2, q3, t_set q4 hap g2 _⟩ (fun j _ => am_fv_pref k h9.symm n1 j)
    · rw [c3] at z; cases z
    · rw [c3] at z; cases z
    · rw [c3] at z; cases z
theorem am_s_getstatic {i : Nat} (F : am_Fx p s m args meth c D ty b sp xs L md) (X : am_St s D ty b sp xs L md H locs ls l kr h) (hdg : decode (am_B md) pc = .ok (.getstatic i, 3)) (hs : am_gst (pc + 3) l st kr h (am_gs (am_O md) i) = some C) (kk : am_KK p l0 e0 R s m args below meth c cells slots Q D ty b sp xs L md kr C) : W p l0 e0 R s m args below meth c H locs cells slots Q (F0 m pc ls (st.map (am_cv b sp))) := by
  obtain ⟨⟨hx, hb, hml, hown⟩, hts, hK, hE, hok, hini, hL⟩ := id F
  obtain ⟨v, hv, rfl⟩ := am_gst_i hs
  have h2 := am_k0 kk rfl X
  rw [List.map_cons] at h2
  rcases am_gs_ok hv with ⟨ho, rfl, rfl⟩ | ⟨ho, rfl, rfl⟩ | ⟨ho, rfl, rfl⟩ | ⟨ho, rfl, rfl⟩
  · obtain ⟨a, e1, e2, -⟩ := hE.1
    rw [am_cv_ge (by omega) e1] at h2
    rw [ho] at hown
    exact va_getsN hx hb e2 X.2.1 hown (va_Nw.use rfl hE.2.2.2.2.2.2.2.1) (fun _ q => q) hdg h2
  · obtain ⟨a, e1, e2, -⟩ := hE.2.1
    rw [am_cv_ge (by omega) e1] at h2
    rw [ho] at hown
    exact va_gets hx hb e2 X.2.1 hown (hts _ (am_Win (am_at_in (i := 2087) (by decide +kernel)) rfl)) (fun _ q => q) hdg h2
  · rw [ho] at hown
    exact va_gets hx hb hE.2.2.1 X.2.1 hown (hts _ (am_Win (am_at_in (i := 2199) (by decide +kernel)) rfl)) (fun _ q => q) hdg h2
  · rw [ho] at hown
    exact va_gets hx hb hE.2.2.2.1 X.2.1 hown (hts _ (am_Win (am_at_in (i := 2215) (by decide +kernel)) rfl)) (fun _ q => q) hdg h2
theorem am_s_new {i : Nat} (hroom : cells + (C.2.2.2.1.1 - kr.1) ≤ R.cells ∧ slots + (am_S C.2.2.2.1.1 - am_S kr.1) ≤ R.slots) (F : am_Fx p s m args meth c D ty b sp xs L md) (X : am_St s D ty b sp xs L md H locs ls l kr h) (hdg : decode (am_B md) pc = .ok (.new i, 3)) (hs : am_new (pc + 3) l st kr h (am_nw (am_O md) i) = some C) (kk : am_KK p l0 e0 R s m args below meth c cells slots Q D ty b sp xs L md kr C) : W p l0 e0 R s m args below meth c H locs cells slots Q (F0 m pc ls (st.map (am_cv b sp))) := by
  obtain ⟨⟨hx, hb, hml, hown⟩, hts, hK, hE, hok, hini, hL⟩ := id F
  obtain ⟨ci, ps, hf, h1, h2, h3, h4, rfl⟩ := am_new_i hs
  have hk := am_nw_ok hf
  obtain ⟨g1, g2⟩ := am_a2 hk
  obtain ⟨g3, g4⟩ := am_a2 g1
  obtain ⟨g5, g6⟩ := am_a2 g2
  have g7 : ci < 12 := Nat.le_of_ble_eq_true g3
  obtain ⟨v1, v2, v3, v4⟩ := am_cls ci g7
  have hKn := hK.1 ci _ v1
  have hcs : am_cs kr.1 = am_nf ci := by
    unfold am_cs
    rw [h2, h3]
    rfl
  have r1 : kr.1 + 1 - kr.1 = 1 := by omega
  have r2 : am_S (kr.1 + 1) - am_S kr.1 = am_nf ci := by
    show am_S kr.1 + am_cs kr.1 - am_S kr.1 = am_nf ci
    rw [hcs]; omega
  have k2 : am_KK p l0 e0 R s m args below meth c cells slots Q D ty b sp xs L md kr (pc + 3, l, .ref kr.1 :: st, (kr.1 + 1, kr.2), am_z h kr.1) := kk
  unfold am_KK at k2
  dsimp only at k2 hroom
  rw [r1, r2] at hroom
  simp only [r1, r2] at k2
  refine W.newcK hx hb hown (hts _ (am_Win (am_at_in g4) rfl)) (hts _ (am_Win (am_at_in g5) rfl)) (hts _ (am_Win (am_at_in g6) rfl)) rfl hdg hroom.1 hroom.2 hKn.2.1 X.1.1.1 fun H1 kC hkC e1 z1 o1 => ?_
  have hdk := am_dk0 kr.1 (am_shp_lt (by rw [h2]; decide))
  rw [h2, h3] at hdk
  have hdk2 := (am_a2 (am_a2 hdk).2).2
  have hob := u_born (am_tX ci) hts v2 hKn hkC e1 v3
  have hT : t_OB (b + kr.1) (D.1 ci) (am_nf ci) (D.2 ci) H1 (am_fv b (kr.1 + 1, kr.2) (am_z h kr.1) kr.1) := hob.to (fun j hj => by
    have e2 : defaultValue (am_tX ci j) = bif Nat.beq (am_rt kr.1 j).2 1000 then Value.int 0 else Value.null := of_decide_eq_true (List.all_eq_true.mp hdk2 j (List.mem_range.mpr hj))
    have hj40 : j < 40 := Nat.lt_of_lt_of_le hj (Nat.le_of_ble_eq_true (am_a2 (am_a2 hdk).2).1)
    have h5 := Nat.le_of_ble_eq_true (List.all_eq_true.mp h4 j (List.mem_range.mpr hj40))
    rw [e2]
    unfold am_fv
    cases hz : Nat.beq (am_rt kr.1 j).2 1000 with
    | true => rw [cond_true, cond_true, am_z_1]
    | false =>
      rw [cond_false, cond_false, show Nat.blt (am_rt kr.1 j).2 kr.2 = false from Bool.eq_false_iff.mpr (fun z => by have := Nat.le_of_ble_eq_true z; omega)]
      rfl)
  have k3 := k2 H1 locs ls ⟨X.1.new h1 z1 o1 ⟨(fun _ => by rw [h3]; exact hT), (fun z => by rw [h2] at z; cases z), (fun z => by rw [h2] at z; cases z), (fun z => by rw [h2] at z; cases z)⟩, ⟨Nat.le_trans X.2.1.1 (by rw [z1, X.1.1.1]; exact Nat.le_succ _), fun q y1 y2 => (o1 q (Nat.lt_of_lt_of_le (Nat.not_le.mp y2) (Nat.le_add_right _ _))).trans (X.2.1.2.1 q y1 y2), X.2.1.2.2⟩, X.2.2⟩
  rw [List.map_cons, am_cv_lt h1] at k3
  exact k3
theorem am_s_newarray {at0 : ArrayType} {tk : Nat} (htk : (at0 = .int ∧ tk = 1) ∨ (at0 = .char ∧ tk = 2) ∨ (at0 = .long ∧ tk = 3) ∨ tk = 0) (hroom : cells + (C.2.2.2.1.1 - kr.1) ≤ R.cells ∧ slots + (am_S C.2.2.2.1.1 - am_S kr.1) ≤ R.slots) (F : am_Fx p s m args meth c D ty b sp xs L md) (X : am_St s D ty b sp xs L md H locs ls l kr h) (hdg : decode (am_B md) pc = .ok (.newarray at0, 2)) (hs : am_nwa (pc + 2) l st kr h tk = some C) (kk : am_KK p l0 e0 R s m args below meth c cells slots Q D ty b sp xs L md kr C) : W p l0 e0 R s m args below meth c H locs cells slots Q (F0 m pc ls (st.map (am_cv b sp))) := by
  obtain ⟨⟨hx, hb, hml, hown⟩, hts, hK, hE, hok, hini, hL⟩ := id F
  obtain ⟨n, r, rfl, h0, h1, h2, h3, h4, h5, rfl⟩ := am_nwa_i hs
  have hA : ∃ (t : Nat) (fy : FieldType) (t0 : Nat), (am_shp kr.1).1 = t ∧ newarray.typeOf at0 = fy ∧ (fy = .int ∨ fy = .char ∨ fy = .long) ∧ ([(ty 1, .int), (ty 2, .char), (ty 3, .long)] : List (ClassId × FieldType))[t0]? = some (ty t, fy) ∧ componentBytes fy ≤ 8 ∧ (defaultValue fy = (if t = 3 then Value.long 0 else Value.int 0)) ∧ (t = 1 ∨ t = 2 ∨ t = 3) := by
    rcases htk with ⟨rfl, rfl⟩ | ⟨rfl, rfl⟩ | ⟨rfl, rfl⟩ | rfl
    · exact ⟨1, .int, 0, h2, rfl, Or.inl rfl, rfl, by decide, rfl, Or.inl rfl⟩
    · exact ⟨2, .char, 1, h2, rfl, Or.inr (Or.inl rfl), rfl, by decide, rfl, Or.inr (Or.inl rfl)⟩
    · exact ⟨3, .long, 2, h2, rfl, Or.inr (Or.inr rfl), rfl, by decide, rfl, Or.inr (Or.inr rfl)⟩
    · exact absurd h0 (Nat.lt_irrefl 0)
  obtain ⟨t, fy, t0, a1, a2, a3, a4, a5, a6, a7⟩ := hA
  have hcs : am_cs kr.1 = n.toNatClampNeg := by
    unfold am_cs
    rw [a1, h3]
    rcases a7 with rfl | rfl | rfl <;> rfl
  have r1 : kr.1 + 1 - kr.1 = 1 := by omega
  have r2 : am_S (kr.1 + 1) - am_S kr.1 = n.toNatClampNeg := by
    show am_S kr.1 + am_cs kr.1 - am_S kr.1 = _
    rw [hcs]; omega
  have k2 : am_KK p l0 e0 R s m args below meth c cells slots Q D ty b sp xs L md kr (pc + 2, l, .ref kr.1 :: r, (kr.1 + 1, kr.2), am_z h kr.1) := kk
  unfold am_KK at k2
  dsimp only at k2 hroom
  rw [r1, r2] at hroom
  simp only [r1, r2] at k2
  rw [List.map_cons]
  subst a2
  refine va_newaK hx hb (hts _ (am_ac a3)) (g := F0 m pc ls (am_cv b sp (.int n) :: r.map (am_cv b sp))) rfl hdg (n := n) (N := n.toNatClampNeg) (rest := r.map (am_cv b sp)) rfl h4 rfl (Nat.le_trans (Nat.mul_le_mul (Nat.le_of_lt h5) a5) (by decide)) hroom.1 hroom.2 X.1.1.1 fun H1 cA e1 z1 o1 hAr hNm => ?_
  have hcA : cA = ty t := by
    have h7 := (hK.2 t0 _ a4).2
    rcases a3 with e | e | e <;> rw [e] at h7 hNm <;> exact Option.some.inj (hNm.symm.trans h7)
  subst hcA
  rw [a6] at e1
  have k3 := k2 H1 locs ls ⟨X.1.new h1 z1 o1 ⟨fun z => by omega, fun z => ?_, fun z => ?_, fun z => ?_⟩, ⟨Nat.le_trans X.2.1.1 (by rw [z1, X.1.1.1]; exact Nat.le_succ _), fun q y1 y2 => (o1 q (Nat.lt_of_lt_of_le (Nat.not_le.mp y2) (Nat.le_add_right _ _))).trans (X.2.1.2.1 q y1 y2), X.2.1.2.2⟩, X.2.2⟩
  · rw [List.map_cons, am_cv_lt h1] at k3
    exact k3
  · rw [a1] at z
    subst z
    rw [e1, h3]
    rw [if_neg (by decide)]
    simp only [am_z_1]
  · rw [a1] at z
    subst z
    rw [e1, h3]
    rw [if_neg (by decide)]
    simp only [am_z_1]
  · rw [a1] at z
    subst z
    rw [e1, h3]
    rw [if_pos rfl]
    simp only [am_z_2]
theorem am_s_ldc {i tg : Nat} {k : Int} (hw : (bif Nat.beq tg 0 then (match am_ic (am_O md) i with | some q => am_at q (.constant (am_cn (am_O md)) i (Int32.ofInt k)) | none => true) else (match am_st[tg - 1000]? with | some w => decide (w.1 = am_cn (am_O md)) && decide (w.2.1 = i) | none => false)) = true) (F : am_Fx p s m args meth c D ty b sp xs L md) (X : am_St s D ty b sp xs L md H locs ls l kr h) (hdg : decode (am_B md) pc = .ok (.ldc i, 2)) (hs : am_ldc (pc + 2) l st kr h (am_O md) i tg k = some C) (kk : am_KK p l0 e0 R s m args below meth c cells slots Q D ty b sp xs L md kr C) : W p l0 e0 R s m args below meth c H locs cells slots Q (F0 m pc ls (st.map (am_cv b sp))) := by
  obtain ⟨⟨hx, hb, hml, hown⟩, hts, hK, hE, hok, hini, hL⟩ := id F
  have h2 := am_ldc_i hs
  rcases h2 with ⟨rfl, ⟨ps, hp⟩, rfl⟩ | ⟨h3, h4, h5, rfl⟩
  · rw [Nat.beq_refl, cond_true, hp] at hw
    exact lv_ldc hx hb hown (hts _ (am_Win (am_at_in hw) rfl)) hdg (am_k0 kk rfl X)
  · rw [show Nat.beq tg 0 = false from Bool.eq_false_iff.mpr (fun z => h3 (Nat.eq_of_beq_eq_true z)), cond_false] at hw
    obtain ⟨z1, z2, z3, z4, z5⟩ := am_sub00 h4 h5
    obtain ⟨w, hw2⟩ := am_st12 z1
    rw [hw2] at hw
    obtain ⟨a, v, f1, f2, f3, f4, f5, f6, f7⟩ := hE.2.2.2.2.2.1 _ _ hw2
    have h6 := am_k0 kk rfl X
    rw [z2] at f1
    rw [List.map_cons, am_cv_ge z3 f1] at h6
    have e1 : w.1 = am_cn (am_O md) := of_decide_eq_true (am_a2 hw).1
    have e2 : w.2.1 = i := of_decide_eq_true (am_a2 hw).2
    rw [e1, e2] at f3
    exact va_ldcS hx hb hown f3 hdg h6
theorem am_s_ldc2 {i : Nat} (F : am_Fx p s m args meth c D ty b sp xs L md) (X : am_St s D ty b sp xs L md H locs ls l kr h) (hdg : decode (am_B md) pc = .ok (.ldc2_w i, 3)) (hs : am_lc2 (pc + 3) l st kr h (am_lc (am_O md) i) = some C) (kk : am_KK p l0 e0 R s m args below meth c cells slots Q D ty b sp xs L md kr C) : W p l0 e0 R s m args below meth c H locs cells slots Q (F0 m pc ls (st.map (am_cv b sp))) := by
  obtain ⟨⟨hx, hb, hml, hown⟩, hts, hK, hE, hok, hini, hL⟩ := id F
  obtain ⟨v, ps, hf, rfl⟩ := am_lc2_i hs
  exact lv_ldc2 hx hb hown (hts _ (am_Win (am_at_in (am_lc_ok hf)) rfl)) hdg (am_k0 kk rfl X)
set_option maxRecDepth 20000 in
theorem am_step {e : am_E} (F : am_Fx p s m args meth c D ty b sp xs L md) (X : am_St s D ty b sp xs L md H locs ls l kr h) (he : am_T md pc = some e) (hs : am_stp md e pc l st kr h = some C) (hroom : cells + (C.2.2.2.1.1 - kr.1) ≤ R.cells ∧ slots + (am_S C.2.2.2.1.1 - am_S kr.1) ≤ R.slots) (kk : am_KK p l0 e0 R s m args below meth c cells slots Q D ty b sp xs L md kr C) : W p l0 e0 R s m args below meth c H locs cells slots Q (F0 m pc ls (st.map (am_cv b sp))) := by
  have hd := F.2.2.2.2.1.1 pc e he
  obtain ⟨ins, tg, k⟩ := e
  cases ins with
  | iadd => exact am_s_iadd F X (am_dd hd) hs kk
  | isub => exact am_s_isub F X (am_dd hd) hs kk
  | imul => exact am_s_imul F X (am_dd hd) hs kk
  | iand => exact am_s_iand F X (am_dd hd) hs kk
  | ior => exact am_s_ior F X (am_dd hd) hs kk
  | ishl => exact am_s_ishl F X (am_dd hd) hs kk
  | ishr => exact am_s_ishr F X (am_dd hd) hs kk
  | idiv => exact am_s_idiv F X (am_dd hd) hs kk
  | irem => exact am_s_irem F X (am_dd hd) hs kk
  | ineg => exact am_s_ineg F X (am_dd hd) hs kk
  | land => exact am_s_land F X (am_dd hd) hs kk
  | lor => exact am_s_lor F X (am_dd hd) hs kk
  | lshl => exact am_s_lshl F X (am_dd hd) hs kk
  | lcmp => exact am_s_lcmp F X (am_dd hd) hs kk
  | i2l => exact am_s_i2l F X (am_dd hd) hs kk
  | l2i => exact am_s_l2i F X (am_dd hd) hs kk
  | i2c => exact am_s_i2c F X (am_dd hd) hs kk
  | dup => exact am_s_dup F X (am_dd hd) hs kk
  | pop => exact am_s_pop F X (am_dd hd) hs kk
  | dup2 => exact am_s_dup2 F X (am_dd hd) hs kk
  | iaload => exact am_s_iald F X (am_dd hd) hs kk
  | caload => exact am_s_cald F X (am_dd hd) hs kk
  | laload => exact am_s_lald F X (am_dd hd) hs kk
  | baload => exact am_s_bald F X (am_dd hd) hs kk
  | iastore => exact am_s_iast F X (am_dd hd) hs kk
  | castore => exact am_s_cast F X (am_dd hd) hs kk
  | lastore => exact am_s_last F X (am_dd hd) hs kk
  | arraylength => exact am_s_alen F X (am_dd hd) hs kk
  | iload_n i => exact am_s_iload_n F X (am_dd hd) hs kk
  | iload i => exact am_s_iload F X (am_dd hd) hs kk
  | lload_n i => exact am_s_lload_n F X (am_dd hd) hs kk
  | lload i => exact am_s_lload F X (am_dd hd) hs kk
  | aload_n i => exact am_s_aload_n F X (am_dd hd) hs kk
  | aload i => exact am_s_aload F X (am_dd hd) hs kk
  | istore_n i => exact am_s_istore_n F X (am_dd hd) hs kk
  | istore i => exact am_s_istore F X (am_dd hd) hs kk
  | astore_n i => exact am_s_astore_n F X (am_dd hd) hs kk
  | astore i => exact am_s_astore F X (am_dd hd) hs kk
  | lstore i => exact am_s_lstore F X (am_dd hd) hs kk
  | lconst i => exact am_s_lconst F X (am_dd hd) hs kk
  | iconst n => exact am_s_iconst (of_decide_eq_true (am_dd2 hd)) F X (am_dd hd) hs kk
  | bipush n => exact am_s_bipush (of_decide_eq_true (am_dd2 hd)) F X (am_dd hd) hs kk
  | sipush n => exact am_s_sipush (of_decide_eq_true (am_dd2 hd)) F X (am_dd hd) hs kk
  | iinc i n => exact am_s_iinc (of_decide_eq_true (am_dd2 hd)) F X (am_dd hd) hs kk
  | goto f => exact am_s_goto (of_decide_eq_true (am_dd2 hd)) F X (am_dd hd) hs kk
  | ifCond cd f =>
    cases cd with
    | eq => exact am_s_if_eq (of_decide_eq_true (am_dd2 hd)) F X (am_dd hd) hs kk
    | ne => exact am_s_if_ne (of_decide_eq_true (am_dd2 hd)) F X (am_dd hd) hs kk
    | lt => exact am_s_if_lt (of_decide_eq_true (am_dd2 hd)) F X (am_dd hd) hs kk
    | ge => exact am_s_if_ge (of_decide_eq_true (am_dd2 hd)) F X (am_dd hd) hs kk
    | gt => exact am_s_if_gt (of_decide_eq_true (am_dd2 hd)) F X (am_dd hd) hs kk
    | le => exact am_s_if_le (of_decide_eq_true (am_dd2 hd)) F X (am_dd hd) hs kk
  | if_icmp cd f =>
    cases cd with
    | eq => exact am_s_icmp_eq (of_decide_eq_true (am_dd2 hd)) F X (am_dd hd) hs kk
    | ne => exact am_s_icmp_ne (of_decide_eq_true (am_dd2 hd)) F X (am_dd hd) hs kk
    | lt => exact am_s_icmp_lt (of_decide_eq_true (am_dd2 hd)) F X (am_dd hd) hs kk
    | ge => exact am_s_icmp_ge (of_decide_eq_true (am_dd2 hd)) F X (am_dd hd) hs kk
    | gt => exact am_s_icmp_gt (of_decide_eq_true (am_dd2 hd)) F X (am_dd hd) hs kk
    | le => exact am_s_icmp_le (of_decide_eq_true (am_dd2 hd)) F X (am_dd hd) hs kk
  | tableswitch d lo hi o => exact am_s_sw F X (of_decide_eq_true hd) hs kk
  | getfield i => exact am_s_getfield F X (am_dd hd) hs kk
  | putfield i => exact am_s_putfield F X (am_dd hd) hs kk
  | getstatic i => exact am_s_getstatic F X (am_dd hd) hs kk
  | new i => exact am_s_new hroom F X (am_dd hd) hs kk
  | newarray a =>
    cases a with
    | int => exact am_s_newarray (Or.inl ⟨rfl, rfl⟩) hroom F X (am_dd hd) hs kk
    | char => exact am_s_newarray (Or.inr (Or.inl ⟨rfl, rfl⟩)) hroom F X (am_dd hd) hs kk
    | long => exact am_s_newarray (Or.inr (Or.inr (Or.inl ⟨rfl, rfl⟩))) hroom F X (am_dd hd) hs kk
    | _ => exact am_s_newarray (Or.inr (Or.inr (Or.inr rfl))) hroom F X (am_dd hd) hs kk
  | ldc i => exact am_s_ldc (am_dd2 hd) F X (am_dd hd) hs kk
  | ldc2_w i => exact am_s_ldc2 F X (am_dd hd) hs kk
  | _ => exact absurd (show (none : Option am_C) = some C from hs) (fun z => by cases z)
end STEP
