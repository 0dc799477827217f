/-! A STEP OF THE ABSTRACT MACHINE IS ONE OF THE REAL ONE -/
theorem am_cv_ref (b : Nat) (sp : Nat → Option Nat) (x : Nat) : (∃ a, am_cv b sp (.ref x) = .ref a) ∨ am_cv b sp (.ref x) = .null := by
  show (∃ a, (bif Nat.blt x 1000 then Value.ref (b + x) else va_rf (sp x)) = .ref a) ∨ (bif Nat.blt x 1000 then Value.ref (b + x) else va_rf (sp x)) = .null
  cases Nat.blt x 1000 with
  | true => exact Or.inl ⟨_, rfl⟩
  | false =>
    cases sp x with
    | none => exact Or.inr rfl
    | some a => exact Or.inl ⟨a, rfl⟩
theorem am_cv_lt {b : Nat} {sp : Nat → Option Nat} {x : Nat} (h : x < 1000) : am_cv b sp (.ref x) = .ref (b + x) := by
  show (bif Nat.blt x 1000 then Value.ref (b + x) else va_rf (sp x)) = .ref (b + x)
  rw [show Nat.blt x 1000 = true from Nat.ble_eq_true_of_le h]
  rfl
theorem am_cv_ge {b : Nat} {sp : Nat → Option Nat} {x a : Nat} (h : 1000 ≤ x) (e : sp x = some a) : am_cv b sp (.ref x) = .ref a := by
  show (bif Nat.blt x 1000 then Value.ref (b + x) else va_rf (sp x)) = .ref a
  rw [show Nat.blt x 1000 = false from Bool.eq_false_iff.mpr (fun z => by have := Nat.le_of_ble_eq_true z; omega), e]
  rfl
theorem am_dd {P : Prop} {x : Bool} {hP : Decidable P} (h : (decide P && x) = true) : P := of_decide_eq_true (Bool.and_eq_true _ _ ▸ h).1
theorem am_ar_i {kr : Nat × Nat} {h : am_H} {c n : Nat} {f : Nat → Int32} (q : am_ar kr h c = some (n, f)) : (c < 1000 ∧ c < kr.1 ∧ (am_shp c).1 = 1 ∧ n = (am_shp c).2 ∧ f = h.1 c) ∨ (c = 1040 ∧ n = 6 ∧ f = am_F6) ∨ (c = 1041 ∧ n = 6 ∧ f = am_M6) ∨ (c = 1050 ∧ n = (h.1 1051 0).toNatClampNeg ∧ f = h.1 1050) := by
  unfold am_ar at q
  cases h1 : Nat.blt c 1000 with
  | true =>
    rw [h1, cond_true] at q
    cases hb : (Nat.blt c kr.1 && Nat.beq (am_shp c).1 1) with
    | false => rw [hb] at q; cases q
    | true =>
      rw [hb, cond_true] at q
      rw [Bool.and_eq_true] at hb
      cases q
      exact Or.inl ⟨Nat.le_of_ble_eq_true h1, Nat.le_of_ble_eq_true hb.1, Nat.eq_of_beq_eq_true hb.2, rfl, rfl⟩
  | false =>
    rw [h1, cond_false] at q
    cases h2 : Nat.beq c 1040 with
    | true => rw [h2, cond_true] at q; cases q; exact Or.inr (Or.inl ⟨Nat.eq_of_beq_eq_true h2, rfl, rfl⟩)
    | false =>
      rw [h2, cond_false] at q
      cases h3 : Nat.beq c 1041 with
      | true => rw [h3, cond_true] at q; cases q; exact Or.inr (Or.inr (Or.inl ⟨Nat.eq_of_beq_eq_true h3, rfl, rfl⟩))
      | false =>
        rw [h3, cond_false] at q
        cases h4 : Nat.beq c 1050 with
        | true => rw [h4, cond_true] at q; cases q; exact Or.inr (Or.inr (Or.inr ⟨Nat.eq_of_beq_eq_true h4, rfl, rfl⟩))
        | false => rw [h4, cond_false] at q; cases q
theorem am_ln_i {kr : Nat × Nat} {h : am_H} {c : Nat} {n : Int} (q : am_ln kr h c = some n) : (c < 1000 ∧ c < kr.1 ∧ 0 < (am_shp c).1 ∧ (am_shp c).1 < 4 ∧ n = Int.ofNat (am_shp c).2) ∨ (c = 1040 ∧ n = 6) ∨ (c = 1041 ∧ n = 6) ∨ (c = 1050 ∧ n = (h.1 1051 0).toInt) ∨ (1019 < c ∧ c < 1032 ∧ n = Int.ofNat (am_by (c - 1020)).length) := by
  unfold am_ln at q
  cases h1 : Nat.blt c 1000 with
  | true =>
    rw [h1, cond_true] at q
    cases hb : (Nat.blt c kr.1 && (Nat.blt 0 (am_shp c).1 && Nat.blt (am_shp c).1 4)) with
    | false => rw [hb] at q; cases q
    | true =>
      rw [hb, cond_true] at q
      simp only [Bool.and_eq_true] at hb
      exact Or.inl ⟨Nat.le_of_ble_eq_true h1, Nat.le_of_ble_eq_true hb.1, Nat.le_of_ble_eq_true hb.2.1, Nat.le_of_ble_eq_true hb.2.2, (Option.some.inj q).symm⟩
  | false =>
    rw [h1, cond_false] at q
    cases h2 : Nat.beq c 1040 with
    | true => rw [h2, cond_true] at q; exact Or.inr (Or.inl ⟨Nat.eq_of_beq_eq_true h2, (Option.some.inj q).symm⟩)
    | false =>
      rw [h2, cond_false] at q
      cases h3 : Nat.beq c 1041 with
      | true => rw [h3, cond_true] at q; exact Or.inr (Or.inr (Or.inl ⟨Nat.eq_of_beq_eq_true h3, (Option.some.inj q).symm⟩))
      | false =>
        rw [h3, cond_false] at q
        cases h4 : Nat.beq c 1050 with
        | true => rw [h4, cond_true] at q; exact Or.inr (Or.inr (Or.inr (Or.inl ⟨Nat.eq_of_beq_eq_true h4, (Option.some.inj q).symm⟩)))
        | false =>
          rw [h4, cond_false] at q
          cases hb : (Nat.blt 1019 c && Nat.blt c 1032) with
          | false => rw [hb] at q; cases q
          | true =>
            rw [hb, cond_true] at q
            rw [Bool.and_eq_true] at hb
            exact Or.inr (Or.inr (Or.inr (Or.inr ⟨Nat.le_of_ble_eq_true hb.1, Nat.le_of_ble_eq_true hb.2, (Option.some.inj q).symm⟩)))
section STEP
variable {p : Program} {l0 : Launch} {e0 : Env} {R : Room} {s : State} {m : MethodId} {args : Array Value} {below : List Frame} {meth : Method} {c : Code} {H : Heap} {locs : List Loc} {cells slots : Nat} {Q : State → Prop}
variable {D : va_G} {ty : Nat → ClassId} {b : Nat} {sp : Nat → Option Nat} {xs : Nat → Int32} {L : Nat} {md : am_MD} {pc : Nat} {l : am_LV} {st : List Value} {kr : Nat × Nat} {h : am_H} {ls : Array Slot} {C : am_C}
/-- what comes behind a step -/
def am_KK (p : Program) (l0 : Launch) (e0 : Env) (R : Room) (s : State) (m : MethodId) (args : Array Value) (below : List Frame) (meth : Method) (c : Code) (cells slots : Nat) (Q : State → Prop) (D : va_G) (ty : Nat → ClassId) (b : Nat) (sp : Nat → Option Nat) (xs : Nat → Int32) (L : Nat) (md : am_MD) (kr : Nat × Nat) (C : am_C) : Prop :=
  ∀ (H' : Heap) (locs' : List Loc) (ls' : Array Slot), am_St s D ty b sp xs L md H' locs' ls' C.2.1 C.2.2.2.1 C.2.2.2.2 → W p l0 e0 R s m args below meth c H' locs' (cells + (C.2.2.2.1.1 - kr.1)) (slots + (am_S C.2.2.2.1.1 - am_S kr.1)) Q (F0 m C.1 ls' (C.2.2.1.map (am_cv b sp)))
theorem am_k0 {pc' : Nat} {l' : am_LV} {st' : List Value} {kr' : Nat × Nat} {h' : am_H} (kk : am_KK p l0 e0 R s m args below meth c cells slots Q D ty b sp xs L md kr (pc', l', st', kr', h')) (e : kr'.1 = kr.1) {H' : Heap} {locs' : List Loc} {ls' : Array Slot} (X : am_St s D ty b sp xs L md H' locs' ls' l' kr' h') : W p l0 e0 R s m args below meth c H' locs' cells slots Q (F0 m pc' ls' (st'.map (am_cv b sp))) := by
  have h1 := kk H' locs' ls' X
  dsimp only at h1
  rw [e, Nat.sub_self, Nat.sub_self, Nat.add_zero, Nat.add_zero] at h1
  exact h1
theorem am_S_put {A : Nat → Prop} {H0 H1 : Heap} {locs : List Loc} {a k : Nat} (hS : va_S A H0 H locs) (z : H1.size = H.size) (oq : ∀ q : Nat, q ≠ a → H1[q]? = H[q]?) (ha : A a) : va_S A H0 H1 (locs ++ [⟨a, k⟩]) := hS.put z oq ha
theorem am_s_iadd  (F : am_Fx p s m args meth c D ty b sp xs L md) (X : am_St s D ty b sp xs L md H locs ls l kr h) (hdg : decode (am_B md) pc = .ok (.iadd, 1)) (hs : am_b2 (pc + 1) l st kr h (· + ·) = some C) (kk : am_KK p l0 e0 R s m args below meth c cells slots Q D ty b sp xs L md kr C) : W p l0 e0 R s m args below meth c H locs cells slots Q (F0 m pc ls (st.map (am_cv b sp))) := by
  obtain ⟨⟨hx, hb, hml, hown⟩, hts, hK, hE, hok, hini, hL⟩ := id F
  obtain ⟨x, y, r, rfl, rfl⟩ := am_b2_i hs
  exact lv_iadd hx hb hdg (am_k0 kk rfl X)
theorem am_s_isub  (F : am_Fx p s m args meth c D ty b sp xs L md) (X : am_St s D ty b sp xs L md H locs ls l kr h) (hdg : decode (am_B md) pc = .ok (.isub, 1)) (hs : am_b2 (pc + 1) l st kr h (· - ·) = some C) (kk : am_KK p l0 e0 R s m args below meth c cells slots Q D ty b sp xs L md kr C) : W p l0 e0 R s m args below meth c H locs cells slots Q (F0 m pc ls (st.map (am_cv b sp))) := by
  obtain ⟨⟨hx, hb, hml, hown⟩, hts, hK, hE, hok, hini, hL⟩ := id F
  obtain ⟨x, y, r, rfl, rfl⟩ := am_b2_i hs
  exact lv_isub hx hb hdg (am_k0 kk rfl X)
theorem am_s_imul  (F : am_Fx p s m args meth c D ty b sp xs L md) (X : am_St s D ty b sp xs L md H locs ls l kr h) (hdg : decode (am_B md) pc = .ok (.imul, 1)) (hs : am_b2 (pc + 1) l st kr h (· * ·) = some C) (kk : am_KK p l0 e0 R s m args below meth c cells slots Q D ty b sp xs L md kr C) : W p l0 e0 R s m args below meth c H locs cells slots Q (F0 m pc ls (st.map (am_cv b sp))) := by
  obtain ⟨⟨hx, hb, hml, hown⟩, hts, hK, hE, hok, hini, hL⟩ := id F
  obtain ⟨x, y, r, rfl, rfl⟩ := am_b2_i hs
  exact lv_imul hx hb hdg (am_k0 kk rfl X)
theorem am_s_iand  (F : am_Fx p s m args meth c D ty b sp xs L md) (X : am_St s D ty b sp xs L md H locs ls l kr h) (hdg : decode (am_B md) pc = .ok (.iand, 1)) (hs : am_b2 (pc + 1) l st kr h (· &&& ·) = some C) (kk : am_KK p l0 e0 R s m args below meth c cells slots Q D ty b sp xs L md kr C) : W p l0 e0 R s m args below meth c H locs cells slots Q (F0 m pc ls (st.map (am_cv b sp))) := by
  obtain ⟨⟨hx, hb, hml, hown⟩, hts, hK, hE, hok, hini, hL⟩ := id F
  obtain ⟨x, y, r, rfl, rfl⟩ := am_b2_i hs
  exact lv_iand hx hb hdg (am_k0 kk rfl X)
theorem am_s_ior  (F : am_Fx p s m args meth c D ty b sp xs L md) (X : am_St s D ty b sp xs L md H locs ls l kr h) (hdg : decode (am_B md) pc = .ok (.ior, 1)) (hs : am_b2 (pc + 1) l st kr h (· ||| ·) = some C) (kk : am_KK p l0 e0 R s m args below meth c cells slots Q D ty b sp xs L md kr C) : W p l0 e0 R s m args below meth c H locs cells slots Q (F0 m pc ls (st.map (am_cv b sp))) := by
  obtain ⟨⟨hx, hb, hml, hown⟩, hts, hK, hE, hok, hini, hL⟩ := id F
  obtain ⟨x, y, r, rfl, rfl⟩ := am_b2_i hs
  exact lv_ior hx hb hdg (am_k0 kk rfl X)
theorem am_s_ishl  (F : am_Fx p s m args meth c D ty b sp xs L md) (X : am_St s D ty b sp xs L md H locs ls l kr h) (hdg : decode (am_B md) pc = .ok (.ishl, 1)) (hs : am_b2 (pc + 1) l st kr h (fun x y => x <<< (y &&& 31)) = some C) (kk : am_KK p l0 e0 R s m args below meth c cells slots Q D ty b sp xs L md kr C) : W p l0 e0 R s m args below meth c H locs cells slots Q (F0 m pc ls (st.map (am_cv b sp))) := by
  obtain ⟨⟨hx, hb, hml, hown⟩, hts, hK, hE, hok, hini, hL⟩ := id F
  obtain ⟨x, y, r, rfl, rfl⟩ := am_b2_i hs
  exact lv_ishl hx hb hdg (am_k0 kk rfl X)
theorem am_s_ishr  (F : am_Fx p s m args meth c D ty b sp xs L md) (X : am_St s D ty b sp xs L md H locs ls l kr h) (hdg : decode (am_B md) pc = .ok (.ishr, 1)) (hs : am_b2 (pc + 1) l st kr h (fun x y => x >>> (y &&& 31)) = some C) (kk : am_KK p l0 e0 R s m args below meth c cells slots Q D ty b sp xs L md kr C) : W p l0 e0 R s m args below meth c H locs cells slots Q (F0 m pc ls (st.map (am_cv b sp))) := by
  obtain ⟨⟨hx, hb, hml, hown⟩, hts, hK, hE, hok, hini, hL⟩ := id F
  obtain ⟨x, y, r, rfl, rfl⟩ := am_b2_i hs
  exact lv_ishr hx hb hdg (am_k0 kk rfl X)
theorem am_s_idiv  (F : am_Fx p s m args meth c D ty b sp xs L md) (X : am_St s D ty b sp xs L md H locs ls l kr h) (hdg : decode (am_B md) pc = .ok (.idiv, 1)) (hs : am_d2 (pc + 1) l st kr h (· / ·) = some C) (kk : am_KK p l0 e0 R s m args below meth c cells slots Q D ty b sp xs L md kr C) : W p l0 e0 R s m args below meth c H locs cells slots Q (F0 m pc ls (st.map (am_cv b sp))) := by
  obtain ⟨⟨hx, hb, hml, hown⟩, hts, hK, hE, hok, hini, hL⟩ := id F
  obtain ⟨x, y, r, rfl, hy, rfl⟩ := am_d2_i hs
  exact lv_idiv hx hb hdg hy (am_k0 kk rfl X)
theorem am_s_irem  (F : am_Fx p s m args meth c D ty b sp xs L md) (X : am_St s D ty b sp xs L md H locs ls l kr h) (hdg : decode (am_B md) pc = .ok (.irem, 1)) (hs : am_d2 (pc + 1) l st kr h (fun x y => x - x / y * y) = some C) (kk : am_KK p l0 e0 R s m args below meth c cells slots Q D ty b sp xs L md kr C) : W p l0 e0 R s m args below meth c H locs cells slots Q (F0 m pc ls (st.map (am_cv b sp))) := by
  obtain ⟨⟨hx, hb, hml, hown⟩, hts, hK, hE, hok, hini, hL⟩ := id F
  obtain ⟨x, y, r, rfl, hy, rfl⟩ := am_d2_i hs
  exact lv_irem hx hb hdg hy (am_k0 kk rfl X)
theorem am_s_ineg  (F : am_Fx p s m args meth c D ty b sp xs L md) (X : am_St s D ty b sp xs L md H locs ls l kr h) (hdg : decode (am_B md) pc = .ok (.ineg, 1)) (hs : am_ng (pc + 1) l st kr h = some C) (kk : am_KK p l0 e0 R s m args below meth c cells slots Q D ty b sp xs L md kr C) : W p l0 e0 R s m args below meth c H locs cells slots Q (F0 m pc ls (st.map (am_cv b sp))) := by
  obtain ⟨⟨hx, hb, hml, hown⟩, hts, hK, hE, hok, hini, hL⟩ := id F
  obtain ⟨x, r, rfl, rfl⟩ := am_ng_i hs
  exact lv_ineg hx hb hdg (am_k0 kk rfl X)
theorem am_s_land  (F : am_Fx p s m args meth c D ty b sp xs L md) (X : am_St s D ty b sp xs L md H locs ls l kr h) (hdg : decode (am_B md) pc = .ok (.land, 1)) (hs : am_l2 (pc + 1) l st kr h (· &&& ·) = some C) (kk : am_KK p l0 e0 R s m args below meth c cells slots Q D ty b sp xs L md kr C) : W p l0 e0 R s m args below meth c H locs cells slots Q (F0 m pc ls (st.map (am_cv b sp))) := by
  obtain ⟨⟨hx, hb, hml, hown⟩, hts, hK, hE, hok, hini, hL⟩ := id F
  obtain ⟨x, y, r, rfl, rfl⟩ := am_l2_i hs
  exact lv_land hx hb hdg (am_k0 kk rfl X)
theorem am_s_lor  (F : am_Fx p s m args meth c D ty b sp xs L md) (X : am_St s D ty b sp xs L md H locs ls l kr h) (hdg : decode (am_B md) pc = .ok (.lor, 1)) (hs : am_l2 (pc + 1) l st kr h (· ||| ·) = some C) (kk : am_KK p l0 e0 R s m args below meth c cells slots Q D ty b sp xs L md kr C) : W p l0 e0 R s m args below meth c H locs cells slots Q (F0 m pc ls (st.map (am_cv b sp))) := by
  obtain ⟨⟨hx, hb, hml, hown⟩, hts, hK, hE, hok, hini, hL⟩ := id F
  obtain ⟨x, y, r, rfl, rfl⟩ := am_l2_i hs
  exact lv_lor hx hb hdg (am_k0 kk rfl X)
theorem am_s_lshl  (F : am_Fx p s m args meth c D ty b sp xs L md) (X : am_St s D ty b sp xs L md H locs ls l kr h) (hdg : decode (am_B md) pc = .ok (.lshl, 1)) (hs : am_lsh (pc + 1) l st kr h = some C) (kk : am_KK p l0 e0 R s m args below meth c cells slots Q D ty b sp xs L md kr C) : W p l0 e0 R s m args below meth c H locs cells slots Q (F0 m pc ls (st.map (am_cv b sp))) := by
  obtain ⟨⟨hx, hb, hml, hown⟩, hts, hK, hE, hok, hini, hL⟩ := id F
  obtain ⟨x, y, r, rfl, rfl⟩ := am_lsh_i hs
  exact lv_lshl hx hb hdg rfl (am_k0 kk rfl X)
theorem am_s_lcmp  (F : am_Fx p s m args meth c D ty b sp xs L md) (X : am_St s D ty b sp xs L md H locs ls l kr h) (hdg : decode (am_B md) pc = .ok (.lcmp, 1)) (hs : am_cmp (pc + 1) l st kr h = some C) (kk : am_KK p l0 e0 R s m args below meth c cells slots Q D ty b sp xs L md kr C) : W p l0 e0 R s m args below meth c H locs cells slots Q (F0 m pc ls (st.map (am_cv b sp))) := by
  obtain ⟨⟨hx, hb, hml, hown⟩, hts, hK, hE, hok, hini, hL⟩ := id F
  obtain ⟨x, y, r, rfl, rfl⟩ := am_cmp_i hs
  exact W.lcmp hx hb hdg (am_k0 kk rfl X)
theorem am_s_i2l  (F : am_Fx p s m args meth c D ty b sp xs L md) (X : am_St s D ty b sp xs L md H locs ls l kr h) (hdg : decode (am_B md) pc = .ok (.i2l, 1)) (hs : am_i2l (pc + 1) l st kr h = some C) (kk : am_KK p l0 e0 R s m args below meth c cells slots Q D ty b sp xs L md kr C) : W p l0 e0 R s m args below meth c H locs cells slots Q (F0 m pc ls (st.map (am_cv b sp))) := by
  obtain ⟨⟨hx, hb, hml, hown⟩, hts, hK, hE, hok, hini, hL⟩ := id F
  obtain ⟨x, r, rfl, rfl⟩ := am_i2l_i hs
  exact lv_i2l hx hb hdg rfl (am_k0 kk rfl X)
theorem am_s_l2i  (F : am_Fx p s m args meth c D ty b sp xs L md) (X : am_St s D ty b sp xs L md H locs ls l kr h) (hdg : decode (am_B md) pc = .ok (.l2i, 1)) (hs : am_l2i (pc + 1) l st kr h = some C) (kk : am_KK p l0 e0 R s m args below meth c cells slots Q D ty b sp xs L md kr C) : W p l0 e0 R s m args below meth c H locs cells slots Q (F0 m pc ls (st.map (am_cv b sp))) := by
  obtain ⟨⟨hx, hb, hml, hown⟩, hts, hK, hE, hok, hini, hL⟩ := id F
  obtain ⟨x, r, rfl, rfl⟩ := am_l2i_i hs
  exact lv_l2i hx hb hdg rfl (am_k0 kk rfl X)
theorem am_s_i2c  (F : am_Fx p s m args meth c D ty b sp xs L md) (X : am_St s D ty b sp xs L md H locs ls l kr h) (hdg : decode (am_B md) pc = .ok (.i2c, 1)) (hs : am_i2c (pc + 1) l st kr h = some C) (kk : am_KK p l0 e0 R s m args below meth c cells slots Q D ty b sp xs L md kr C) : W p l0 e0 R s m args below meth c H locs cells slots Q (F0 m pc ls (st.map (am_cv b sp))) := by
  obtain ⟨⟨hx, hb, hml, hown⟩, hts, hK, hE, hok, hini, hL⟩ := id F
  obtain ⟨x, r, rfl, rfl⟩ := am_i2c_i hs
  exact lv_i2c hx hb hdg rfl (am_k0 kk rfl X)
theorem am_s_dup  (F : am_Fx p s m args meth c D ty b sp xs L md) (X : am_St s D ty b sp xs L md H locs ls l kr h) (hdg : decode (am_B md) pc = .ok (.dup, 1)) (hs : am_dup (pc + 1) l st kr h = some C) (kk : am_KK p l0 e0 R s m args below meth c cells slots Q D ty b sp xs L md kr C) : W p l0 e0 R s m args below meth c H locs cells slots Q (F0 m pc ls (st.map (am_cv b sp))) := by
  obtain ⟨⟨hx, hb, hml, hown⟩, hts, hK, hE, hok, hini, hL⟩ := id F
  obtain ⟨v, r, rfl, hv, rfl⟩ := am_dup_i hs
  exact lv_dup hx hb hdg ((am_cv_cat b sp v).trans hv) (am_k0 kk rfl X)
theorem am_s_pop  (F : am_Fx p s m args meth c D ty b sp xs L md) (X : am_St s D ty b sp xs L md H locs ls l kr h) (hdg : decode (am_B md) pc = .ok (.pop, 1)) (hs : am_pop (pc + 1) l st kr h = some C) (kk : am_KK p l0 e0 R s m args below meth c cells slots Q D ty b sp xs L md kr C) : W p l0 e0 R s m args below meth c H locs cells slots Q (F0 m pc ls (st.map (am_cv b sp))) := by
  obtain ⟨⟨hx, hb, hml, hown⟩, hts, hK, hE, hok, hini, hL⟩ := id F
  obtain ⟨v, r, rfl, hv, rfl⟩ := am_pop_i hs
  exact lv_pop hx hb hdg ((am_cv_cat b sp v).trans hv) (am_k0 kk rfl X)
theorem am_s_dup2  (F : am_Fx p s m args meth c D ty b sp xs L md) (X : am_St s D ty b sp xs L md H locs ls l kr h) (hdg : decode (am_B md) pc = .ok (.dup2, 1)) (hs : am_dup2 (pc + 1) l st kr h = some C) (kk : am_KK p l0 e0 R s m args below meth c cells slots Q D ty b sp xs L md kr C) : W p l0 e0 R s m args below meth c H locs cells slots Q (F0 m pc ls (st.map (am_cv b sp))) := by
  obtain ⟨⟨hx, hb, hml, hown⟩, hts, hK, hE, hok, hini, hL⟩ := id F
  obtain ⟨v, w, r, rfl, hv, hw, rfl⟩ := am_dup2_i hs
  exact lv_dup2_11 hx hb hdg ((am_cv_cat b sp v).trans hv) ((am_cv_cat b sp w).trans hw) (am_k0 kk rfl X)
theorem am_s_iconst {n k : Int} (hv : n = k) (F : am_Fx p s m args meth c D ty b sp xs L md) (X : am_St s D ty b sp xs L md H locs ls l kr h) (hdg : decode (am_B md) pc = .ok (.iconst n, 1)) (hs : some (pc + 1, l, .int (Int32.ofInt k) :: st, kr, h) = some C) (kk : am_KK p l0 e0 R s m args below meth c cells slots Q D ty b sp xs L md kr C) : W p l0 e0 R s m args below meth c H locs cells slots Q (F0 m pc ls (st.map (am_cv b sp))) := by
  obtain ⟨⟨hx, hb, hml, hown⟩, hts, hK, hE, hok, hini, hL⟩ := id F
  cases hs
  exact lv_iconst hx hb hdg (congrArg Int32.ofInt hv) (am_k0 kk rfl X)
theorem am_s_bipush {n k : Int} (hv : (Int8.ofInt n).toInt32 = Int32.ofInt k) (F : am_Fx p s m args meth c D ty b sp xs L md) (X : am_St s D ty b sp xs L md H locs ls l kr h) (hdg : decode (am_B md) pc = .ok (.bipush n, 2)) (hs : some (pc + 2, l, .int (Int32.ofInt k) :: st, kr, h) = some C) (kk : am_KK p l0 e0 R s m args below meth c cells slots Q D ty b sp xs L md kr C) : W p l0 e0 R s m args below meth c H locs cells slots Q (F0 m pc ls (st.map (am_cv b sp))) := by
  obtain ⟨⟨hx, hb, hml, hown⟩, hts, hK, hE, hok, hini, hL⟩ := id F
  cases hs
  exact lv_bipush hx hb hdg hv (am_k0 kk rfl X)
theorem am_s_sipush {n k : Int} (hv : (Int16.ofInt n).toInt32 = Int32.ofInt k) (F : am_Fx p s m args meth c D ty b sp xs L md) (X : am_St s D ty b sp xs L md H locs ls l kr h) (hdg : decode (am_B md) pc = .ok (.sipush n, 3)) (hs : some (pc + 3, l, .int (Int32.ofInt k) :: st, kr, h) = some C) (kk : am_KK p l0 e0 R s m args below meth c cells slots Q D ty b sp xs L md kr C) : W p l0 e0 R s m args below meth c H locs cells slots Q (F0 m pc ls (st.map (am_cv b sp))) := by
  obtain ⟨⟨hx, hb, hml, hown⟩, hts, hK, hE, hok, hini, hL⟩ := id F
  cases hs
  exact lv_sipush hx hb hdg hv (am_k0 kk rfl X)
theorem am_s_lconst {n : Fin 2} (F : am_Fx p s m args meth c D ty b sp xs L md) (X : am_St s D ty b sp xs L md H locs ls l kr h) (hdg : decode (am_B md) pc = .ok (.lconst n, 1)) (hs : some (pc + 1, l, .long (Int64.ofNat n) :: st, kr, h) = some C) (kk : am_KK p l0 e0 R s m args below meth c cells slots Q D ty b sp xs L md kr C) : W p l0 e0 R s m args below meth c H locs cells slots Q (F0 m pc ls (st.map (am_cv b sp))) := by
  obtain ⟨⟨hx, hb, hml, hown⟩, hts, hK, hE, hok, hini, hL⟩ := id F
  cases hs
  exact lv_lconst hx hb hdg rfl (am_k0 kk rfl X)
theorem am_s_iload_n {i : Fin 4} (F : am_Fx p s m args meth c D ty b sp xs L md) (X : am_St s D ty b sp xs L md H locs ls l kr h) (hdg : decode (am_B md) pc = .ok (.iload_n i, 1)) (hs : am_ldi (pc + 1) l st kr h (am_get l i) = some C) (kk : am_KK p l0 e0 R s m args below meth c cells slots Q D ty b sp xs L md kr C) : W p l0 e0 R s m args below meth c H locs cells slots Q (F0 m pc ls (st.map (am_cv b sp))) := by
  obtain ⟨⟨hx, hb, hml, hown⟩, hts, hK, hE, hok, hini, hL⟩ := id F
  obtain ⟨x, hg, rfl⟩ := am_ldi_i hs
  exact lv_iload_n hx hb hdg rfl (am_has_get X.2.2 hg) (am_k0 kk rfl X)
theorem am_s_iload {i : Nat} (F : am_Fx p s m args meth c D ty b sp xs L md) (X : am_St s D ty b sp xs L md H locs ls l kr h) (hdg : decode (am_B md) pc = .ok (.iload i, 2)) (hs : am_ldi (pc + 2) l st kr h (am_get l i) = some C) (kk : am_KK p l0 e0 R s m args below meth c cells slots Q D ty b sp xs L md kr C) : W p l0 e0 R s m args below meth c H locs cells slots Q (F0 m pc ls (st.map (am_cv b sp))) := by
  obtain ⟨⟨hx, hb, hml, hown⟩, hts, hK, hE, hok, hini, hL⟩ := id F
  obtain ⟨x, hg, rfl⟩ := am_ldi_i hs
  exact lv_iload hx hb hdg (am_has_get X.2.2 hg) (am_k0 kk rfl X)
theorem am_s_lload_n {i : Fin 4} (F : am_Fx p s m args meth c D ty b sp xs L md) (X : am_St s D ty b sp xs L md H locs ls l kr h) (hdg : decode (am_B md) pc = .ok (.lload_n i, 1)) (hs : am_ldl (pc + 1) l st kr h (am_get l i) = some C) (kk : am_KK p l0 e0 R s m args below meth c cells slots Q D ty b sp xs L md kr C) : W p l0 e0 R s m args below meth c H locs cells slots Q (F0 m pc ls (st.map (am_cv b sp))) := by
  obtain ⟨⟨hx, hb, hml, hown⟩, hts, hK, hE, hok, hini, hL⟩ := id F
  obtain ⟨x, hg, rfl⟩ := am_ldl_i hs
  exact lv_lload_n hx hb hdg rfl (am_has_get X.2.2 hg) (am_k0 kk rfl X)
theorem am_s_lload {i : Nat} (F : am_Fx p s m args meth c D ty b sp xs L md) (X : am_St s D ty b sp xs L md H locs ls l kr h) (hdg : decode (am_B md) pc = .ok (.lload i, 2)) (hs : am_ldl (pc + 2) l st kr h (am_get l i) = some C) (kk : am_KK p l0 e0 R s m args below meth c cells slots Q D ty b sp xs L md kr C) : W p l0 e0 R s m args below meth c H locs cells slots Q (F0 m pc ls (st.map (am_cv b sp))) := by
  obtain ⟨⟨hx, hb, hml, hown⟩, hts, hK, hE, hok, hini, hL⟩ := id F
  obtain ⟨x, hg, rfl⟩ := am_ldl_i hs
  exact lv_lload hx hb hdg (am_has_get X.2.2 hg) (am_k0 kk rfl X)
theorem am_s_aload_n {i : Fin 4} (F : am_Fx p s m args meth c D ty b sp xs L md) (X : am_St s D ty b sp xs L md H locs ls l kr h) (hdg : decode (am_B md) pc = .ok (.aload_n i, 1)) (hs : am_lda (pc + 1) l st kr h (am_get l i) = some C) (kk : am_KK p l0 e0 R s m args below meth c cells slots Q D ty b sp xs L md kr C) : W p l0 e0 R s m args below meth c H locs cells slots Q (F0 m pc ls (st.map (am_cv b sp))) := by
  obtain ⟨⟨hx, hb, hml, hown⟩, hts, hK, hE, hok, hini, hL⟩ := id F
  obtain ⟨x, hg, rfl⟩ := am_lda_i hs
  have h1 := am_has_get X.2.2 hg
  have h2 := am_k0 kk rfl X
  rw [List.map_cons] at h2
  rcases am_cv_ref b sp x with ⟨a, e⟩ | e
  · rw [e] at h1 h2
    exact lv_aload_n hx hb hdg rfl h1 h2
  · rw [e] at h1 h2
    exact lv_aload_nN hx hb hdg rfl h1 h2
theorem am_s_istore_n {i : Fin 4} (F : am_Fx p s m args meth c D ty b sp xs L md) (X : am_St s D ty b sp xs L md H locs ls l kr h) (hdg : decode (am_B md) pc = .ok (.istore_n i, 1)) (hs : am_sti (pc + 1) l st kr h (am_L md) i = some C) (kk : am_KK p l0 e0 R s m args below meth c cells slots Q D ty b sp xs L md kr C) : W p l0 e0 R s m args below meth c H locs cells slots Q (F0 m pc ls (st.map (am_cv b sp))) := by
  obtain ⟨⟨hx, hb, hml, hown⟩, hts, hK, hE, hok, hini, hL⟩ := id F
  obtain ⟨x, r, rfl, hi, rfl⟩ := am_sti_i hs
  exact lv_istore_n hx hb hdg rfl X.2.2 hi rfl (fun ls' h1 => am_k0 kk rfl ⟨X.1, X.2.1, am_has_set1 h1⟩)
theorem am_s_astore_n {i : Fin 4} (F : am_Fx p s m args meth c D ty b sp xs L md) (X : am_St s D ty b sp xs L md H locs ls l kr h) (hdg : decode (am_B md) pc = .ok (.astore_n i, 1)) (hs : am_sta (pc + 1) l st kr h (am_L md) i = some C) (kk : am_KK p l0 e0 R s m args below meth c cells slots Q D ty b sp xs L md kr C) : W p l0 e0 R s m args below meth c H locs cells slots Q (F0 m pc ls (st.map (am_cv b sp))) := by
  obtain ⟨⟨hx, hb, hml, hown⟩, hts, hK, hE, hok, hini, hL⟩ := id F
  obtain ⟨x, r, rfl, hi, rfl⟩ := am_sta_i hs
  rw [List.map_cons]
  rcases am_cv_ref b sp x with ⟨a, e⟩ | e
  · rw [e]
    exact lv_astore_n hx hb hdg rfl X.2.2 hi rfl (fun ls' h1 => am_k0 kk rfl ⟨X.1, X.2.1, am_has_set1 (by rw [e]; exact h1)⟩)
  · rw [e]
    exact lv_astore_nN hx hb hdg rfl X.2.2 hi rfl (fun ls' h1 => am_k0 kk rfl ⟨X.1, X.2.1, am_has_set1 (by rw [e]; exact h1)⟩)
theorem am_s_aload {i : Nat} (F : am_Fx p s m args meth c D ty b sp xs L md) (X : am_St s D ty b sp xs L md H locs ls l kr h) (hdg : decode (am_B md) pc = .ok (.aload i, 2)) (hs : am_lda (pc + 2) l st kr h (am_get l i) = some C) (kk : am_KK p l0 e0 R s m args below meth c cells slots Q D ty b sp xs L md kr C) : W p l0 e0 R s m args below meth c H locs cells slots Q (F0 m pc ls (st.map (am_cv b sp))) := by
  obtain ⟨⟨hx, hb, hml, hown⟩, hts, hK, hE, hok, hini, hL⟩ := id F
  obtain ⟨x, hg, rfl⟩ := am_lda_i hs
  have h1 := am_has_get X.2.2 hg
  have h2 := am_k0 kk rfl X
  rw [List.map_cons] at h2
  rcases am_cv_ref b sp x with ⟨a, e⟩ | e
  · rw [e] at h1 h2
    exact lv_aload hx hb hdg h1 h2
  · rw [e] at h1 h2
    exact lv_aloadN hx hb hdg h1 h2
theorem am_s_istore {i : Nat} (F : am_Fx p s m args meth c D ty b sp xs L md) (X : am_St s D ty b sp xs L md H locs ls l kr h) (hdg : decode (am_B md) pc = .ok (.istore i, 2)) (hs : am_sti (pc + 2) l st kr h (am_L md) i = some C) (kk : am_KK p l0 e0 R s m args below meth c cells slots Q D ty b sp xs L md kr C) : W p l0 e0 R s m args below meth c H locs cells slots Q (F0 m pc ls (st.map (am_cv b sp))) := by
  obtain ⟨⟨hx, hb, hml, hown⟩, hts, hK, hE, hok, hini, hL⟩ := id F
  obtain ⟨x, r, rfl, hi, rfl⟩ := am_sti_i hs
  exact lv_istore hx hb hdg X.2.2 hi rfl (fun ls' h1 => am_k0 kk rfl ⟨X.1, X.2.1, am_has_set1 h1⟩)
theorem am_s_astore {i : Nat} (F : am_Fx p s m args meth c D ty b sp xs L md) (X : am_St s D ty b sp xs L md H locs ls l kr h) (hdg : decode (am_B md) pc = .ok (.astore i, 2)) (hs : am_sta (pc + 2) l st kr h (am_L md) i = some C) (kk : am_KK p l0 e0 R s m args below meth c cells slots Q D ty b sp xs L md kr C) : W p l0 e0 R s m args below meth c H locs cells slots Q (F0 m pc ls (st.map (am_cv b sp))) := by
  obtain ⟨⟨hx, hb, hml, hown⟩, hts, hK, hE, hok, hini, hL⟩ := id F
  obtain ⟨x, r, rfl, hi, rfl⟩ := am_sta_i hs
  rw [List.map_cons]
  rcases am_cv_ref b sp x with ⟨a, e⟩ | e
  · rw [e]
    exact lv_astore hx hb hdg X.2.2 hi rfl (fun ls' h1 => am_k0 kk rfl ⟨X.1, X.2.1, am_has_set1 (by rw [e]; exact h1)⟩)
  · rw [e]
    exact lv_astoreN hx hb hdg X.2.2 hi rfl (fun ls' h1 => am_k0 kk rfl ⟨X.1, X.2.1, am_has_set1 (by rw [e]; exact h1)⟩)
theorem am_s_lstore {i : Nat} (F : am_Fx p s m args meth c D ty b sp xs L md) (X : am_St s D ty b sp xs L md H locs ls l kr h) (hdg : decode (am_B md) pc = .ok (.lstore i, 2)) (hs : am_stl (pc + 2) l st kr h (am_L md) i = some C) (kk : am_KK p l0 e0 R s m args below meth c cells slots Q D ty b sp xs L md kr C) : W p l0 e0 R s m args below meth c H locs cells slots Q (F0 m pc ls (st.map (am_cv b sp))) := by
  obtain ⟨⟨hx, hb, hml, hown⟩, hts, hK, hE, hok, hini, hL⟩ := id F
  obtain ⟨x, r, rfl, hi, rfl⟩ := am_stl_i hs
  exact lv_lstore hx hb hdg X.2.2 hi rfl (fun ls' h1 => am_k0 kk rfl ⟨X.1, X.2.1, am_has_set2 h1⟩)
theorem am_s_iinc {i : Nat} {n k : Int} (hv : n = k) (F : am_Fx p s m args meth c D ty b sp xs L md) (X : am_St s D ty b sp xs L md H locs ls l kr h) (hdg : decode (am_B md) pc = .ok (.iinc i n, 3)) (hs : am_inc (pc + 3) l st kr h (am_get l i) i (am_L md) k = some C) (kk : am_KK p l0 e0 R s m args below meth c cells slots Q D ty b sp xs L md kr C) : W p l0 e0 R s m args below meth c H locs cells slots Q (F0 m pc ls (st.map (am_cv b sp))) := by
  obtain ⟨⟨hx, hb, hml, hown⟩, hts, hK, hE, hok, hini, hL⟩ := id F
  obtain ⟨x, hg, hi, rfl⟩ := am_inc_i hs
  obtain ⟨j, hj⟩ := List.getElem?_of_mem (List.mem_map.mpr ⟨(i, .int x), am_get_mem hg, rfl⟩ : (i, Value.int x) ∈ am_ml b sp l)
  exact lv_iinc hx hb hdg X.2.2 hj (by rw [hv]) hi rfl (fun ls' h1 => am_k0 kk rfl ⟨X.1, X.2.1, am_has_set1 h1⟩)
theorem am_s_goto {f : Int} {tg : Nat} (ht : (pc : Int) + f = (tg : Int)) (F : am_Fx p s m args meth c D ty b sp xs L md) (X : am_St s D ty b sp xs L md H locs ls l kr h) (hdg : decode (am_B md) pc = .ok (.goto f, 3)) (hs : some (tg, l, st, kr, h) = some C) (kk : am_KK p l0 e0 R s m args below meth c cells slots Q D ty b sp xs L md kr C) : W p l0 e0 R s m args below meth c H locs cells slots Q (F0 m pc ls (st.map (am_cv b sp))) := by
  obtain ⟨⟨hx, hb, hml, hown⟩, hts, hK, hE, hok, hini, hL⟩ := id F
  cases hs
  exact lv_goto hx hb hdg ht (am_k0 kk rfl X)
theorem am_s_if_eq {f : Int} {tg : Nat} (ht : (pc : Int) + f = (tg : Int)) (F : am_Fx p s m args meth c D ty b sp xs L md) (X : am_St s D ty b sp xs L md H locs ls l kr h) (hdg : decode (am_B md) pc = .ok (.ifCond .eq f, 3)) (hs : am_bz (pc + 3) l st kr h (am_c0 .eq) tg = some C) (kk : am_KK p l0 e0 R s m args below meth c cells slots Q D ty b sp xs L md kr C) : W p l0 e0 R s m args below meth c H locs cells slots Q (F0 m pc ls (st.map (am_cv b sp))) := by
  obtain ⟨⟨hx, hb, hml, hown⟩, hts, hK, hE, hok, hini, hL⟩ := id F
  obtain ⟨x, r, rfl, rfl⟩ := am_bz_i hs
  refine lv_if_eq hx hb hdg ht (fun z => ?_) (fun z => ?_)
  · have h1 := am_k0 kk rfl X
    rw [show am_c0 .eq x = true from (by first | exact decide_eq_true z | (show (!decide _) = true; rw [decide_eq_false z]; rfl) | (show (!decide _) = true; rw [decide_eq_false (Int32.not_lt.mpr z)]; rfl))] at h1
    exact h1
  · have h1 := am_k0 kk rfl X
    rw [show am_c0 .eq x = false from (by first | exact decide_eq_false z | (show (!decide _) = false; rw [decide_eq_true z]; rfl) | (show (!decide _) = false; rw [decide_eq_true (Int32.not_le.mp z)]; rfl))] at h1
    exact h1
theorem am_s_icmp_eq {f : Int} {tg : Nat} (ht : (pc : Int) + f = (tg : Int)) (F : am_Fx p s m args meth c D ty b sp xs L md) (X : am_St s D ty b sp xs L md H locs ls l kr h) (hdg : decode (am_B md) pc = .ok (.if_icmp .eq f, 3)) (hs : am_bi (pc + 3) l st kr h (am_c2 .eq) tg = some C) (kk : am_KK p l0 e0 R s m args below meth c cells slots Q D ty b sp xs L md kr C) : W p l0 e0 R s m args below meth c H locs cells slots Q (F0 m pc ls (st.map (am_cv b sp))) := by
  obtain ⟨⟨hx, hb, hml, hown⟩, hts, hK, hE, hok, hini, hL⟩ := id F
  obtain ⟨x, y, r, rfl, rfl⟩ := am_bi_i hs
  refine lv_icmp_eq hx hb hdg ht (fun z => ?_) (fun z => ?_)
  · have h1 := am_k0 kk rfl X
    rw [show am_c2 .eq x y = true from (by first | exact decide_eq_true z | (show (!decide _) = true; rw [decide_eq_false z]; rfl) | (show (!decide _) = true; rw [decide_eq_false (Int32.not_lt.mpr z)]; rfl))] at h1
    exact h1
  · have h1 := am_k0 kk rfl X
    rw [show am_c2 .eq x y = false from (by first | exact decide_eq_false z | (show (!decide _) = false; rw [decide_eq_true z]; rfl) | (show (!decide _) = false; rw [decide_eq_true (Int32.not_le.mp z)]; rfl))] at h1
    exact h1
theorem am_s_if_ne {f : Int} {tg : Nat} (ht : (pc : Int) + f = (tg : Int)) (F : am_Fx p s m args meth c D ty b sp xs L md) (X : am_St s D ty b sp xs L md H locs ls l kr h) (hdg : decode (am_B md) pc = .ok (.ifCond .ne f, 3)) (hs : am_bz (pc + 3) l st kr h (am_c0 .ne) tg = some C) (kk : am_KK p l0 e0 R s m args below meth c cells slots Q D ty b sp xs L md kr C) : W p l0 e0 R s m args below meth c H locs cells slots Q (F0 m pc ls (st.map (am_cv b sp))) := by
  obtain ⟨⟨hx, hb, hml, hown⟩, hts, hK, hE, hok, hini, hL⟩ := id F
  obtain ⟨x, r, rfl, rfl⟩ := am_bz_i hs
  refine lv_if_ne hx hb hdg ht (fun z => ?_) (fun z => ?_)
  · have h1 := am_k0 kk rfl X
    rw [show am_c0 .ne x = true from (by first | exact decide_eq_true z | (show (!decide _) = true; rw [decide_eq_false z]; rfl) | (show (!decide _) = true; rw [decide_eq_false (Int32.not_lt.mpr z)]; rfl))] at h1
    exact h1
  · have h1 := am_k0 kk rfl X
    rw [show am_c0 .ne x = false from (by first | exact decide_eq_false z | (show (!decide _) = false; rw [decide_eq_true z]; rfl) | (show (!decide _) = false; rw [decide_eq_true (Int32.not_le.mp z)]; rfl))] at h1
    exact h1
theorem am_s_icmp_ne {f : Int} {tg : Nat} (ht : (pc : Int) + f = (tg : Int)) (F : am_Fx p s m args meth c D ty b sp xs L md) (X : am_St s D ty b sp xs L md H locs ls l kr h) (hdg : decode (am_B md) pc = .ok (.if_icmp .ne f, 3)) (hs : am_bi (pc + 3) l st kr h (am_c2 .ne) tg = some C) (kk : am_KK p l0 e0 R s m args below meth c cells slots Q D ty b sp xs L md kr C) : W p l0 e0 R s m args below meth c H locs cells slots Q (F0 m pc ls (st.map (am_cv b sp))) := by
  obtain ⟨⟨hx, hb, hml, hown⟩, hts, hK, hE, hok, hini, hL⟩ := id F
  obtain ⟨x, y, r, rfl, rfl⟩ := am_bi_i hs
  refine lv_icmp_ne hx hb hdg ht (fun z => ?_) (fun z => ?_)
  · have h1 := am_k0 kk rfl X
    rw [show am_c2 .ne x y = true from (by first | exact decide_eq_true z | (show (!decide _) = true; rw [decide_eq_false z]; rfl) | (show (!decide _) = true; rw [decide_eq_false (Int32.not_lt.mpr z)]; rfl))] at h1
    exact h1
  · have h1 := am_k0 kk rfl X
    rw [show am_c2 .ne x y = false from (by first | exact decide_eq_false z | (show (!decide _) = false; rw [decide_eq_true z]; rfl) | (show (!decide _) = false; rw [decide_eq_true (Int32.not_le.mp z)]; rfl))] at h1
    exact h1
theorem am_s_if_lt {f : Int} {tg : Nat} (ht : (pc : Int) + f = (tg : Int)) (F : am_Fx p s m args meth c D ty b sp xs L md) (X : am_St s D ty b sp xs L md H locs ls l kr h) (hdg : decode (am_B md) pc = .ok (.ifCond .lt f, 3)) (hs : am_bz (pc + 3) l st kr h (am_c0 .lt) tg = some C) (kk : am_KK p l0 e0 R s m args below meth c cells slots Q D ty b sp xs L md kr C) : W p l0 e0 R s m args below meth c H locs cells slots Q (F0 m pc ls (st.map (am_cv b sp))) := by
  obtain ⟨⟨hx, hb, hml, hown⟩, hts, hK, hE, hok, hini, hL⟩ := id F
  obtain ⟨x, r, rfl, rfl⟩ := am_bz_i hs
  refine lv_if_lt hx hb hdg ht (fun z => ?_) (fun z => ?_)
  · have h1 := am_k0 kk rfl X
    rw [show am_c0 .lt x = true from (by first | exact decide_eq_true z | (show (!decide _) = true; rw [decide_eq_false z]; rfl) | (show (!decide _) = true; rw [decide_eq_false (Int32.not_lt.mpr z)]; rfl))] at h1
    exact h1
  · have h1 := am_k0 kk rfl X
    rw [show am_c0 .lt x = false from (by first | exact decide_eq_false z | (show (!decide _) = false; rw [decide_eq_true z]; rfl) | (show (!decide _) = false; rw [decide_eq_true (Int32.not_le.mp z)]; rfl))] at h1
    exact h1
theorem am_s_icmp_lt {f : Int} {tg : Nat} (ht : (pc : Int) + f = (tg : Int)) (F : am_Fx p s m args meth c D ty b sp xs L md) (X : am_St s D ty b sp xs L md H locs ls l kr h) (hdg : decode (am_B md) pc = .ok (.if_icmp .lt f, 3)) (hs : am_bi (pc + 3) l st kr h (am_c2 .lt) tg = some C) (kk : am_KK p l0 e0 R s m args below meth c cells slots Q D ty b sp xs L md kr C) : W p l0 e0 R s m args below meth c H locs cells slots Q (F0 m pc ls (st.map (am_cv b sp))) := by
  obtain ⟨⟨hx, hb, hml, hown⟩, hts, hK, hE, hok, hini, hL⟩ := id F
  obtain ⟨x, y, r, rfl, rfl⟩ := am_bi_i hs
  refine lv_icmp_lt hx hb hdg ht (fun z => ?_) (fun z => ?_)
  · have h1 := am_k0 kk rfl X
    rw [show am_c2 .lt x y = true from (by first | exact decide_eq_true z | (show (!decide _) = true; rw [decide_eq_false z]; rfl) | (show (!decide _) = true; rw [decide_eq_false (Int32.not_lt.mpr z)]; rfl))] at h1
    exact h1
  · have h1 := am_k0 kk rfl X
    rw [show am_c2 .lt x y = false from (by first | exact decide_eq_false z | (show (!decide _) = false; rw [decide_eq_true z]; rfl) | (show (!decide _) = false; rw [decide_eq_true (Int32.not_le.mp z)]; rfl))] at h1
    exact h1
theorem am_s_if_ge {f : Int} {tg : Nat} (ht : (pc : Int) + f = (tg : Int)) (F : am_Fx p s m args meth c D ty b sp xs L md) (X : am_St s D ty b sp xs L md H locs ls l kr h) (hdg : decode (am_B md) pc = .ok (.ifCond .ge f, 3)) (hs : am_bz (pc + 3) l st kr h (am_c0 .ge) tg = some C) (kk : am_KK p l0 e0 R s m args below meth c cells slots Q D ty b sp xs L md kr C) : W p l0 e0 R s m args below meth c H locs cells slots Q (F0 m pc ls (st.map (am_cv b sp))) := by
  obtain ⟨⟨hx, hb, hml, hown⟩, hts, hK, hE, hok, hini, hL⟩ := id F
  obtain ⟨x, r, rfl, rfl⟩ := am_bz_i hs
  refine lv_if_ge hx hb hdg ht (fun z => ?_) (fun z => ?_)
  · have h1 := am_k0 kk rfl X
    rw [show am_c0 .ge x = true from (by first | exact decide_eq_true z | (show (!decide _) = true; rw [decide_eq_false z]; rfl) | (show (!decide _) = true; rw [decide_eq_false (Int32.not_lt.mpr z)]; rfl))] at h1
    exact h1
  · have h1 := am_k0 kk rfl X
    rw [show am_c0 .ge x = false from (by first | exact decide_eq_false z | (show (!decide _) = false; rw [decide_eq_true z]; rfl) | (show (!decide _) = false; rw [decide_eq_true (Int32.not_le.mp z)]; rfl))] at h1
    exact h1
theorem am_s_icmp_ge {f : Int} {tg : Nat} (ht : (pc : Int) + f = (tg : Int)) (F : am_Fx p s m args meth c D ty b sp xs L md) (X : am_St s D ty b sp xs L md H locs ls l kr h) (hdg : decode (am_B md) pc = .ok (.if_icmp .ge f, 3)) (hs : am_bi (pc + 3) l st kr h (am_c2 .ge) tg = some C) (kk : am_KK p l0 e0 R s m args below meth c cells slots Q D ty b sp xs L md kr C) : W p l0 e0 R s m args below meth c H locs cells slots Q (F0 m pc ls (st.map (am_cv b sp))) := by
  obtain ⟨⟨hx, hb, hml, hown⟩, hts, hK, hE, hok, hini, hL⟩ := id F
  obtain ⟨x, y, r, rfl, rfl⟩ := am_bi_i hs
  refine lv_icmp_ge hx hb hdg ht (fun z => ?_) (fun z => ?_)
  · have h1 := am_k0 kk rfl X
    rw [show am_c2 .ge x y = true from (by first | exact decide_eq_true z | (show (!decide _) = true; rw [decide_eq_false z]; rfl) | (show (!decide _) = true; rw [decide_eq_false (Int32.not_lt.mpr z)]; rfl))] at h1
    exact h1
  · have h1 := am_k0 kk rfl X
    rw [show am_c2 .ge x y = false from (by first | exact decide_eq_false z | (show (!decide _) = false; rw [decide_eq_true z]; rfl) | (show (!decide _) = false; rw [decide_eq_true (Int32.not_le.mp z)]; rfl))] at h1
    exact h1
theorem am_s_if_gt {f : Int} {tg : Nat} (ht : (pc : Int) + f = (tg : Int)) (F : am_Fx p s m args meth c D ty b sp xs L md) (X : am_St s D ty b sp xs L md H locs ls l kr h) (hdg : decode (am_B md) pc = .ok (.ifCond .gt f, 3)) (hs : am_bz (pc + 3) l st kr h (am_c0 .gt) tg = some C) (kk : am_KK p l0 e0 R s m args below meth c cells slots Q D ty b sp xs L md kr C) : W p l0 e0 R s m args below meth c H locs cells slots Q (F0 m pc ls (st.map (am_cv b sp))) := by
  obtain ⟨⟨hx, hb, hml, hown⟩, hts, hK, hE, hok, hini, hL⟩ := id F
  obtain ⟨x, r, rfl, rfl⟩ := am_bz_i hs
  refine lv_if_gt hx hb hdg ht (fun z => ?_) (fun z => ?_)
  · have h1 := am_k0 kk rfl X
    rw [show am_c0 .gt x = true from (by first | exact decide_eq_true z | (show (!decide _) = true; rw [decide_eq_false z]; rfl) | (show (!decide _) = true; rw [decide_eq_false (Int32.not_lt.mpr z)]; rfl))] at h1
    exact h1
  · have h1 := am_k0 kk rfl X
    rw [show am_c0 .gt x = false from (by first | exact decide_eq_false z | (show (!decide _) = false; rw [decide_eq_true z]; rfl) | (show (!decide _) = false; rw [decide_eq_true (Int32.not_le.mp z)]; rfl))] at h1
    exact h1
theorem am_s_icmp_gt {f : Int} {tg : Nat} (ht : (pc : Int) + f = (tg : Int)) (F : am_Fx p s m args meth c D ty b sp xs L md) (X : am_St s D ty b sp xs L md H locs ls l kr h) (hdg : decode (am_B md) pc = .ok (.if_icmp .gt f, 3)) (hs : am_bi (pc + 3) l st kr h (am_c2 .gt) tg = some C) (kk : am_KK p l0 e0 R s m args below meth c cells slots Q D ty b sp xs L md kr C) : W p l0 e0 R s m args below meth c H locs cells slots Q (F0 m pc ls (st.map (am_cv b sp))) := by
  obtain ⟨⟨hx, hb, hml, hown⟩, hts, hK, hE, hok, hini, hL⟩ := id F
  obtain ⟨x, y, r, rfl, rfl⟩ := am_bi_i hs
  refine lv_icmp_gt hx hb hdg ht (fun z => ?_) (fun z => ?_)
  · have h1 := am_k0 kk rfl X
    rw [show am_c2 .gt x y = true from (by first | exact decide_eq_true z | (show (!decide _) = true; rw [decide_eq_false z]; rfl) | (show (!decide _) = true; rw [decide_eq_false (Int32.not_lt.mpr z)]; rfl))] at h1
    exact h1
  · have h1 := am_k0 kk rfl X
    rw [show am_c2 .gt x y = false from (by first | exact decide_eq_false z | (show (!decide _) = false; rw [decide_eq_true z]; rfl) | (show (!decide _) = false; rw [decide_eq_true (Int32.not_le.mp z)]; rfl))] at h1
    exact h1
theorem am_s_if_le {f : Int} {tg : Nat} (ht : (pc : Int) + f = (tg : Int)) (F : am_Fx p s m args meth c D ty b sp xs L md) (X : am_St s D ty b sp xs L md H locs ls l kr h) (hdg : decode (am_B md) pc = .ok (.ifCond .le f, 3)) (hs : am_bz (pc + 3) l st kr h (am_c0 .le) tg = some C) (kk : am_KK p l0 e0 R s m args below meth c cells slots Q D ty b sp xs L md kr C) : W p l0 e0 R s m args below meth c H locs cells slots Q (F0 m pc ls (st.map (am_cv b sp))) := by
  obtain ⟨⟨hx, hb, hml, hown⟩, hts, hK, hE, hok, hini, hL⟩ := id F
  obtain ⟨x, r, rfl, rfl⟩ := am_bz_i hs
  refine lv_if_le hx hb hdg ht (fun z => ?_) (fun z => ?_)
  · have h1 := am_k0 kk rfl X
    rw [show am_c0 .le x = true from (by first | exact decide_eq_true z | (show (!decide _) = true; rw [decide_eq_false z]; rfl) | (show (!decide _) = true; rw [decide_eq_false (Int32.not_lt.mpr z)]; rfl))] at h1
    exact h1
  · have h1 := am_k0 kk rfl X
    rw [show am_c0 .le x = false from (by first | exact decide_eq_false z | (show (!decide _) = false; rw [decide_eq_true z]; rfl) | (show (!decide _) = false; rw [decide_eq_true (Int32.not_le.mp z)]; rfl))] at h1
    exact h1
theorem am_s_icmp_le {f : Int} {tg : Nat} (ht : (pc : Int) + f = (tg : Int)) (F : am_Fx p s m args meth c D ty b sp xs L md) (X : am_St s D ty b sp xs L md H locs ls l kr h) (hdg : decode (am_B md) pc = .ok (.if_icmp .le f, 3)) (hs : am_bi (pc + 3) l st kr h (am_c2 .le) tg = some C) (kk : am_KK p l0 e0 R s m args below meth c cells slots Q D ty b sp xs L md kr C) : W p l0 e0 R s m args below meth c H locs cells slots Q (F0 m pc ls (st.map (am_cv b sp))) := by
  obtain ⟨⟨hx, hb, hml, hown⟩, hts, hK, hE, hok, hini, hL⟩ := id F
  obtain ⟨x, y, r, rfl, rfl⟩ := am_bi_i hs
  refine lv_icmp_le hx hb hdg ht (fun z => ?_) (fun z => ?_)
  · have h1 := am_k0 kk rfl X
    rw [show am_c2 .le x y = true from (by first | exact decide_eq_true z | (show (!decide _) = true; rw [decide_eq_false z]; rfl) | (show (!decide _) = true; rw [decide_eq_false (Int32.not_lt.mpr z)]; rfl))] at h1
    exact h1
  · have h1 := am_k0 kk rfl X
    rw [show am_c2 .le x y = false from (by first | exact decide_eq_false z | (show (!decide _) = false; rw [decide_eq_true z]; rfl) | (show (!decide _) = false; rw [decide_eq_true (Int32.not_le.mp z)]; rfl))] at h1
    exact h1
theorem am_s_sw {d lo hi : Int} {o : Array Int} {len : Nat} (F : am_Fx p s m args meth c D ty b sp xs L md) (X : am_St s D ty b sp xs L md H locs ls l kr h) (hdg : decode (am_B md) pc = .ok (.tableswitch d lo hi o, len)) (hs : am_sw l st kr h pc d lo hi o = some C) (kk : am_KK p l0 e0 R s m args below meth c cells slots Q D ty b sp xs L md kr C) : W p l0 e0 R s m args below meth c H locs cells slots Q (F0 m pc ls (st.map (am_cv b sp))) := by
  obtain ⟨⟨hx, hb, hml, hown⟩, hts, hK, hE, hok, hini, hL⟩ := id F
  obtain ⟨x, r, f, rfl, h0, rfl, h1⟩ := am_sw_i hs
  rcases h1 with ⟨h1, rfl⟩ | ⟨h1, h2, h3⟩
  · exact lv_tableOut hx hb hdg h1 (Int.toNat_of_nonneg h0).symm (am_k0 kk rfl X)
  · exact lv_tableIn hx hb hdg h1 h2 h3 (Int.toNat_of_nonneg h0).symm (am_k0 kk rfl X)
theorem am_s_iald  (F : am_Fx p s m args meth c D ty b sp xs L md) (X : am_St s D ty b sp xs L md H locs ls l kr h) (hdg : decode (am_B md) pc = .ok (.iaload, 1)) (hs : am_iald (pc + 1) l st kr h = some C) (kk : am_KK p l0 e0 R s m args below meth c cells slots Q D ty b sp xs L md kr C) : W p l0 e0 R s m args below meth c H locs cells slots Q (F0 m pc ls (st.map (am_cv b sp))) := by
  obtain ⟨⟨hx, hb, hml, hown⟩, hts, hK, hE, hok, hini, hL⟩ := id F
  obtain ⟨i, cc, r, n, f, rfl, ha, hin, rfl⟩ := am_iald_i hs
  have h2 := am_k0 kk rfl X
  rw [List.map_cons, List.map_cons]
  rcases am_ar_i ha with ⟨c1, c2, c3, rfl, rfl⟩ | ⟨rfl, rfl, rfl⟩ | ⟨rfl, rfl, rfl⟩ | ⟨rfl, rfl, rfl⟩
  · rw [am_cv_lt c1]
    exact W.iald (v := .int (h.1 cc i.toNatClampNeg)) hx hb ((X.1.2.2 cc c2).2.1 c3) ((hK.2 0 (ty 1, .int) rfl).1 _ _) (fun q => by cases q) (by rw [arrV_size]; exact am_in_spec hin) (by rw [arrV_read _ _ (am_in_lt hin)]) rfl rfl hdg h2
  · obtain ⟨a, e1, -, e2⟩ := hE.1
    rw [am_cv_ge (by omega) e1]
    exact va_ti hx hb e2 X.2.1 (am_in_spec hin) rfl hdg h2
  · obtain ⟨a, e1, -, e2⟩ := hE.2.1
    rw [am_cv_ge (by omega) e1]
    exact va_ti hx hb e2 X.2.1 (am_in_spec hin) rfl hdg h2
  · obtain ⟨a, e1, e3, e2⟩ := hE.2.2.2.2.1
    rw [am_cv_ge (by omega) e1]
    rw [X.1.2.1.1] at h2
    rw [X.1.2.1.2, nI_clamp hL] at hin
    exact va_sld hx hb e2 (Nat.lt_of_lt_of_le e3 hE.2.2.2.2.2.2.2.2) (Nat.not_le.mpr e3) X.2.1 (am_in_spec hin) hdg h2
theorem am_s_cald  (F : am_Fx p s m args meth c D ty b sp xs L md) (X : am_St s D ty b sp xs L md H locs ls l kr h) (hdg : decode (am_B md) pc = .ok (.caload, 1)) (hs : am_cald (pc + 1) l st kr h = some C) (kk : am_KK p l0 e0 R s m args below meth c cells slots Q D ty b sp xs L md kr C) : W p l0 e0 R s m args below meth c H locs cells slots Q (F0 m pc ls (st.map (am_cv b sp))) := by
  obtain ⟨⟨hx, hb, hml, hown⟩, hts, hK, hE, hok, hini, hL⟩ := id F
  obtain ⟨i, cc, r, rfl, c1, c2, c3, hin, rfl⟩ := am_cald_i hs
  have h2 := am_k0 kk rfl X
  rw [List.map_cons, List.map_cons, am_cv_lt c1]
  exact W.cald (v := .int (h.1 cc i.toNatClampNeg)) hx hb ((X.1.2.2 cc c2).2.2.1 c3) ((hK.2 1 (ty 2, .char) rfl).1 _ _) (fun q => by cases q) (by rw [arrV_size]; exact am_in_spec hin) (by rw [arrV_read _ _ (am_in_lt hin)]) rfl rfl hdg h2
theorem am_s_lald  (F : am_Fx p s m args meth c D ty b sp xs L md) (X : am_St s D ty b sp xs L md H locs ls l kr h) (hdg : decode (am_B md) pc = .ok (.laload, 1)) (hs : am_lald (pc + 1) l st kr h = some C) (kk : am_KK p l0 e0 R s m args below meth c cells slots Q D ty b sp xs L md kr C) : W p l0 e0 R s m args below meth c H locs cells slots Q (F0 m pc ls (st.map (am_cv b sp))) := by
  obtain ⟨⟨hx, hb, hml, hown⟩, hts, hK, hE, hok, hini, hL⟩ := id F
  obtain ⟨i, cc, r, rfl, c1, c2, c3, hin, rfl⟩ := am_lald_i hs
  have h2 := am_k0 kk rfl X
  rw [List.map_cons, List.map_cons, am_cv_lt c1]
  exact W.lald (v := .long (h.2 cc i.toNatClampNeg)) hx hb ((X.1.2.2 cc c2).2.2.2 c3) ((hK.2 2 (ty 3, .long) rfl).1 _ _) (fun q => by cases q) (by rw [arrV_size]; exact am_in_spec hin) (by rw [arrV_read _ _ (am_in_lt hin)]) rfl rfl hdg h2
theorem am_s_iast  (F : am_Fx p s m args meth c D ty b sp xs L md) (X : am_St s D ty b sp xs L md H locs ls l kr h) (hdg : decode (am_B md) pc = .ok (.iastore, 1)) (hs : am_iast (pc + 1) l st kr h = some C) (kk : am_KK p l0 e0 R s m args below meth c cells slots Q D ty b sp xs L md kr C) : W p l0 e0 R s m args below meth c H locs cells slots Q (F0 m pc ls (st.map (am_cv b sp))) := by
  obtain ⟨⟨hx, hb, hml, hown⟩, hts, hK, hE, hok, hini, hL⟩ := id F
  obtain ⟨x, i, cc, r, rfl, c1, c2, c3, hin, rfl⟩ := am_iast_i hs
  rw [List.map_cons, List.map_cons, List.map_cons, am_cv_lt c1]
  refine W.iast hx hb ((X.1.2.2 cc c2).2.1 c3) ((hK.2 0 (ty 1, .int) rfl).1 _ _) (fun q => by cases q) (by rw [arrV_size]; exact am_in_spec hin) rfl rfl hdg fun H1 e z oq => ?_
  exact am_k0 kk rfl ⟨X.1.wi c2 (Or.inl rfl) c3 z oq e, X.2.1.put z oq (Nat.le_add_right _ _), X.2.2⟩
theorem am_s_cast  (F : am_Fx p s m args meth c D ty b sp xs L md) (X : am_St s D ty b sp xs L md H locs ls l kr h) (hdg : decode (am_B md) pc = .ok (.castore, 1)) (hs : am_cast (pc + 1) l st kr h = some C) (kk : am_KK p l0 e0 R s m args below meth c cells slots Q D ty b sp xs L md kr C) : W p l0 e0 R s m args below meth c H locs cells slots Q (F0 m pc ls (st.map (am_cv b sp))) := by
  obtain ⟨⟨hx, hb, hml, hown⟩, hts, hK, hE, hok, hini, hL⟩ := id F
  obtain ⟨x, i, cc, r, rfl, c1, c2, c3, hin, rfl⟩ := am_cast_i hs
  rw [List.map_cons, List.map_cons, List.map_cons, am_cv_lt c1]
  refine W.cast hx hb ((X.1.2.2 cc c2).2.2.1 c3) ((hK.2 1 (ty 2, .char) rfl).1 _ _) (fun q => by cases q) (by rw [arrV_size]; exact am_in_spec hin) rfl rfl hdg fun H1 e z oq => ?_
  exact am_k0 kk rfl ⟨X.1.wi c2 (Or.inr rfl) c3 z oq e, X.2.1.put z oq (Nat.le_add_right _ _), X.2.2⟩
theorem am_s_last  (F : am_Fx p s m args meth c D ty b sp xs L md) (X : am_St s D ty b sp xs L md H locs ls l kr h) (hdg : decode (am_B md) pc = .ok (.lastore, 1)) (hs : am_last (pc + 1) l st kr h = some C) (kk : am_KK p l0 e0 R s m args below meth c cells slots Q D ty b sp xs L md kr C) : W p l0 e0 R s m args below meth c H locs cells slots Q (F0 m pc ls (st.map (am_cv b sp))) := by
  obtain ⟨⟨hx, hb, hml, hown⟩, hts, hK, hE, hok, hini, hL⟩ := id F
  obtain ⟨x, i, cc, r, rfl, c1, c2, c3, hin, rfl⟩ := am_last_i hs
  rw [List.map_cons, List.map_cons, List.map_cons, am_cv_lt c1]
  refine W.last hx hb ((X.1.2.2 cc c2).2.2.2 c3) ((hK.2 2 (ty 3, .long) rfl).1 _ _) (fun q => by cases q) (by rw [arrV_size]; exact am_in_spec hin) rfl rfl hdg fun H1 e z oq => ?_
  exact am_k0 kk rfl ⟨X.1.wlong c2 c3 z oq e, X.2.1.put z oq (Nat.le_add_right _ _), X.2.2⟩
theorem am_sub20 {c : Nat} (h1 : 1019 < c) (h2 : c < 1032) : c - 1020 < 12 ∧ 1020 + (c - 1020) = c ∧ 1000 ≤ c := by omega
theorem am_st12 {j : Nat} (h : j < 12) : ∃ w, am_st[j]? = some w := ⟨am_st[j]'(by exact h), List.getElem?_eq_getElem _⟩
theorem am_s_bald  (F : am_Fx p s m args meth c D ty b sp xs L md) (X : am_St s D ty b sp xs L md H locs ls l kr h) (hdg : decode (am_B md) pc = .ok (.baload, 1)) (hs : am_bald (pc + 1) l st kr h = some C) (kk : am_KK p l0 e0 R s m args below meth c cells slots Q D ty b sp xs L md kr C) : W p l0 e0 R s m args below meth c H locs cells slots Q (F0 m pc ls (st.map (am_cv b sp))) := by
  obtain ⟨⟨hx, hb, hml, hown⟩, hts, hK, hE, hok, hini, hL⟩ := id F
  obtain ⟨i, cc, r, rfl, c1, c2, hin, rfl⟩ := am_bald_i hs
  have h2 := am_k0 kk rfl X
  obtain ⟨z1, z2, z3⟩ := am_sub20 c1 c2
  obtain ⟨w, hw⟩ := am_st12 (j := cc - 1020) z1
  obtain ⟨a, v, f1, f2, f3, f4, f5, f6, f7⟩ := hE.2.2.2.2.2.1 _ _ hw
  rw [z2] at f2
  rw [List.map_cons, List.map_cons, am_cv_ge z3 f2]
  exact va_tb hx hb f7 X.2.1 (am_in_spec hin) rfl hdg h2
theorem am_s_alen  (F : am_Fx p s m args meth c D ty b sp xs L md) (X : am_St s D ty b sp xs L md H locs ls l kr h) (hdg : decode (am_B md) pc = .ok (.arraylength, 1)) (hs : am_alen (pc + 1) l st kr h = some C) (kk : am_KK p l0 e0 R s m args below meth c cells slots Q D ty b sp xs L md kr C) : W p l0 e0 R s m args below meth c H locs cells slots Q (F0 m pc ls (st.map (am_cv b sp))) := by
  obtain ⟨⟨hx, hb, hml, hown⟩, hts, hK, hE, hok, hini, hL⟩ := id F
  obtain ⟨cc, r, n, rfl, hn, rfl⟩ := am_alen_i hs
  have h2 := am_k0 kk rfl X
  rw [List.map_cons]
  rw [List.map_cons] at h2
  have ofn : ∀ j : Nat, Int32.ofInt (Int.ofNat j) = Int32.ofNat j := fun j => Int32.ofInt_eq_ofNat
  rcases am_ln_i hn with ⟨c1, c2, c3, c4, rfl⟩ | ⟨rfl, rfl⟩ | ⟨rfl, rfl⟩ | ⟨rfl, rfl⟩ | ⟨c1, c2, rfl⟩
  · rw [am_cv_lt c1]
    rcases (show (am_shp cc).1 = 1 ∨ (am_shp cc).1 = 2 ∨ (am_shp cc).1 = 3 by omega) with z | z | z
    · exact W.alen (n := Int32.ofInt (Int.ofNat (am_shp cc).2)) hx hb ((X.1.2.2 cc c2).2.1 z) ((hK.2 0 (ty 1, .int) rfl).1 _ _) (by rw [arrV_size, ofn] <;> rfl) rfl rfl hdg h2
    · exact W.alen (n := Int32.ofInt (Int.ofNat (am_shp cc).2)) hx hb ((X.1.2.2 cc c2).2.2.1 z) ((hK.2 1 (ty 2, .char) rfl).1 _ _) (by rw [arrV_size, ofn] <;> rfl) rfl rfl hdg h2
    · exact W.alen (n := Int32.ofInt (Int.ofNat (am_shp cc).2)) hx hb ((X.1.2.2 cc c2).2.2.2 z) ((hK.2 2 (ty 3, .long) rfl).1 _ _) (by rw [arrV_size, ofn] <;> rfl) rfl rfl hdg h2
  · obtain ⟨a, e1, -, e2⟩ := hE.1
    rw [am_cv_ge (by omega) e1]
    exact va_tlen hx hb e2 X.2.1 (by decide) hdg h2
  · obtain ⟨a, e1, -, e2⟩ := hE.2.1
    rw [am_cv_ge (by omega) e1]
    exact va_tlen hx hb e2 X.2.1 (by decide) hdg h2
  · obtain ⟨a, e1, e3, e2⟩ := hE.2.2.2.2.1
    rw [am_cv_ge (by omega) e1]
    rw [Int32.ofInt_toInt, X.1.2.1.2] at h2
    exact va_slen hx hb e2 (Nat.lt_of_lt_of_le e3 hE.2.2.2.2.2.2.2.2) (Nat.not_le.mpr e3) X.2.1 hdg h2
  · obtain ⟨z1, z2, z3⟩ := am_sub20 c1 c2
    obtain ⟨w, hw⟩ := am_st12 (j := cc - 1020) z1
    obtain ⟨a, v, f1, f2, f3, f4, f5, f6, f7⟩ := hE.2.2.2.2.2.1 _ _ hw
    rw [z2] at f2
    rw [am_cv_ge z3 f2]
    exact va_tlen hx hb f7 X.2.1 (ofn _).symm hdg h2
end STEP
