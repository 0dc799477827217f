/-! WHOLE RUNS: calls -/
def am_rm (d mc ms : Nat) : Room := { frames := d, cells := mc, slots := ms, locals := 60 * d }
def am_ws (md : am_MD) : List Jvm.Cond := .code (am_Y md) (am_B md) (am_L md) (am_R md) :: am_W
theorem am_good {ws : List Jvm.Cond} (h : ∀ w ∈ ws, w ∈ am_W) : GoodIn am_W ws := fun w hw => ⟨h w hw, good_of_word (List.mem_filter.mp (h w hw)).2⟩
def am_PP (D : va_G) (ty : Nat → ClassId) (b : Nat) (sp : Nat → Option Nat) (xs : Nat → Int32) (L : Nat) (kr : Nat × Nat) (h : am_H) (U : State) : Prop := am_RP D ty b xs L kr h U.heap ∧ va_K D vwCl [(ty 1, .int), (ty 2, .char), (ty 3, .long)] U ∧ am_Env b sp xs L U ∧ L < 2 ^ 31
def am_Qc (D : va_G) (ty : Nat → ClassId) (b : Nat) (sp : Nat → Option Nat) (xs : Nat → Int32) (L : Nat) (rv : Option Value) (kr' : Nat × Nat) (h' : am_H) : Array Value → State → Outcome → State → Prop := fun _ st oc t => oc = .returned (rv.map (am_cv b sp)) ∧ am_RP D ty b xs L kr' h' t.heap ∧ va_F (fun q => b ≤ q) st t
def am_Mt (l0 : Launch) (D : va_G) (ty : Nat → ClassId) (b : Nat) (sp : Nat → Option Nat) (xs : Nat → Int32) (L : Nat) (md : am_MD) (d : Nat) (As : List Value) (kr : Nat × Nat) (h : am_H) (rv : Option Value) (kr' : Nat × Nat) (h' : am_H) : Prop :=
  Met l0 (am_Y md) (am_ws md) (am_rm d (kr'.1 - kr.1) (am_S kr'.1 - am_S kr.1)) (va_Pc (As.map (am_cv b sp)) (am_PP D ty b sp xs L kr h)) (am_Qc D ty b sp xs L rv kr' h') (kr'.1 - kr.1) (am_S kr'.1 - am_S kr.1) (fun q => b ≤ q)
theorem am_sum_cv (b : Nat) (sp : Nat → Option Nat) (st : List Value) : ((st.map (am_cv b sp)).map (fun v => v.category)).sum = am_sum st := by
  induction st with
  | nil => rfl
  | cons v t ih => rw [List.map_cons, List.map_cons, List.sum_cons, ih, am_cv_cat]; rfl
theorem am_lg (b : Nat) (sp : Nat → Option Nat) (vs : List Value) : (lg_sl (vs.map (am_cv b sp))).length = am_sum vs := by
  induction vs with
  | nil => rfl
  | cons v t ih =>
    show (((if (am_cv b sp v).category = 2 then [Slot.val (am_cv b sp v), Slot.second] else [Slot.val (am_cv b sp v)]) ++ lg_sl (t.map (am_cv b sp))) : List Slot).length = v.category + am_sum t
    rw [List.length_append, ih, am_cv_cat]
    rcases lv_cat v with h | h <;> rw [h] <;> rfl
theorem am_args (b : Nat) (sp : Nat → Option Nat) (vs : List Value) : ∀ i, lv_args i (vs.map (am_cv b sp)) = am_ml b sp (lv_args i vs) := by
  induction vs with
  | nil => intro i; rfl
  | cons v t ih =>
    intro i
    show (i, am_cv b sp v) :: lv_args (if (am_cv b sp v).category = 2 then i + 2 else i + 1) (t.map (am_cv b sp)) = (i, am_cv b sp v) :: am_ml b sp (lv_args (if v.category = 2 then i + 2 else i + 1) t)
    rw [am_cv_cat, ih]
theorem am_Env.warm {b : Nat} {sp : Nat → Option Nat} {xs : Nat → Int32} {L : Nat} {s U : State} {H : Heap} {locs : List Loc} (E : am_Env b sp xs L s) (hS : va_S (fun q => b ≤ q) s.heap H locs) (hU : U.heap = H) (hW : s.WarmedH U.vm) : am_Env b sp xs L U :=
  E.go hW.alike (by rw [hU]; exact hS.1) (fun a h1 h2 => by rw [hU]; exact hS.2.1 a h1 h2) (fun _ _ _ _ q => vk_R.warm hW q) (fun _ _ _ _ q => va_Nw.warmM hW q) (fun _ _ _ _ _ _ q => va_Nw.warmF hW q)
theorem am_blind {D : va_G} {ty : Nat → ClassId} {b : Nat} {sp : Nat → Option Nat} {xs : Nat → Int32} {L : Nat} {vs : List Value} {kr : Nat × Nat} {h : am_H} : FrameBlind (va_Pc vs (am_PP D ty b sp xs L kr h)) := fun a U g mk q =>
  ⟨q.1, q.2.1, va_K.moved (u := U) (U := U.calling g mk a) (Vm.Alike.refl U.vm) q.2.2.1, q.2.2.2.1.go (u := U) (U := U.calling g mk a) (Vm.Alike.refl U.vm) (Nat.le_refl _) (fun _ _ _ => rfl) (fun _ _ _ _ z => vk_R.same rfl z) (fun _ _ _ _ z => va_Nw.same rfl rfl z) (fun _ _ _ _ _ _ z => va_Nw.same rfl rfl z), q.2.2.2.2⟩
section STEP
variable {p : Program} {l0 : Launch} {e0 : Env} {R : Room} {s : State} {m : MethodId} {args : Array Value} {below : List Frame} {meth : Method} {c : Code} {H : Heap} {locs : List Loc} {cells slots : Nat} {Q : State → Prop}
variable {D : va_G} {ty : Nat → ClassId} {b : Nat} {sp : Nat → Option Nat} {xs : Nat → Int32} {L : Nat} {md : am_MD} {pc : Nat} {l : am_LV} {st : List Value} {kr : Nat × Nat} {h : am_H} {ls : Array Slot} {C : am_C}
variable {d : Nat} {md1 : am_MD} {As rest : List Value} {rv1 : Option Value} {kr1 : Nat × Nat} {h1 : am_H} {e : am_E}
theorem am_pre (F : am_Fx p s m args meth c D ty b sp xs L md) (X : am_St s D ty b sp xs L md H locs ls l kr h) (U : State) (hU : U.heap = H) (hW : s.WarmedH U.vm) : am_PP D ty b sp xs L kr h U :=
  ⟨by rw [hU]; exact X.1, va_K.moved hW.alike F.2.2.1, F.2.2.2.1.warm X.2.1 hU hW, F.2.2.2.2.2.2⟩
theorem am_recv (F : am_Fx p s m args meth c D ty b sp xs L md) (X : am_St s D ty b sp xs L md H locs ls l kr h) {cc o : Nat} (hq : am_rcv kr.1 cc o = true) : ∃ a, am_cv b sp (.ref cc) = .ref a ∧ ∃ cell : Cell, H[a]? = some cell ∧ cell.vm.isStatics = false ∧ s.vm.findClass (am_cn o) = some cell.cls := by
  obtain ⟨⟨hx, hb, hml, hown⟩, hts, hK, hE, hok, hini, hL⟩ := id F
  rcases (Bool.or_eq_true _ _ ▸ hq : am_ob kr.1 cc o = true ∨ (Nat.beq o 14 && (Nat.blt 999 cc && Nat.blt cc 1012)) = true) with hq | hq
  · obtain ⟨c1, c2, c3, c4⟩ := am_ob_s hq
    have ho : o < 12 := by
      have h1 := am_dk0 cc (am_shp_lt (by rw [c3]; decide))
      rw [c3, c4] at h1
      exact Nat.le_of_ble_eq_true (am_a2 h1).1
    obtain ⟨v1, v2, v3, v4⟩ := am_cls o ho
    have hce := (X.1.2.2 cc c2).1 c3
    rw [c4] at hce
    obtain ⟨cell, q1, q2, q3, q4⟩ := hce
    exact ⟨b + cc, am_cv_lt c1, cell, q1, by rw [q3]; rfl, by rw [q2]; exact (hK.1 o _ v1).2.1⟩
  · simp only [Bool.and_eq_true] at hq
    have ho : o = 14 := Nat.eq_of_beq_eq_true hq.1
    subst ho
    obtain ⟨z1, z2, z3, z4, z5⟩ := am_sub00 (Nat.le_of_ble_eq_true hq.2.1) (Nat.le_of_ble_eq_true hq.2.2)
    obtain ⟨w, hw⟩ := am_st12 z1
    obtain ⟨a, v, f1, f2, f3, f4, f5, f6, f7⟩ := hE.2.2.2.2.2.1 _ _ hw
    rw [z2] at f1
    obtain ⟨cell, g1, g2, g3, g4⟩ := f4.kept X.2.1.2.1
    exact ⟨a, am_cv_ge z3 f1, cell, g1, g2, g3⟩
theorem am_callA {a : Array Value} {st0 rest0 : List Value} {mc ms : Nat} (hr : va_Run p l0 e0 R s m args below meth c H locs cells slots mc ms (F0 m pc ls st0) rest0 (am_Qc D ty b sp xs L rv1 kr1 h1 a) (fun q => b ≤ q)) (hS : va_S (fun q => b ≤ q) s.heap H locs)
    (kk : ∀ (H1 : Heap) (locs1 : List Loc), am_RP D ty b xs L kr1 h1 H1 → va_S (fun q => b ≤ q) s.heap H1 locs1 → W p l0 e0 R s m args below meth c H1 locs1 (cells + mc) (slots + ms) Q (F0 m (pc + 3) ls ((rv1.map (am_cv b sp)).toList ++ rest0))) : W p l0 e0 R s m args below meth c H locs cells slots Q (F0 m pc ls st0) := by
  intro T hT X
  obtain ⟨v, st₀, t, T', Lc, g0, X', hL, e1, e2, ⟨hv, hRP, hz, hk⟩, st⟩ := hr T hT X
  cases hv
  rw [g0] at hz hk
  obtain ⟨t2, a1, b1⟩ := kk T'.heap (locs ++ Lc) (by rw [e1]; exact hRP)
    ⟨Nat.le_trans hS.1 (by rw [e1]; exact hz), fun q y1 y2 => by rw [e1, hk q (Nat.lt_of_lt_of_le y1 hS.1) y2]; exact hS.2.1 q y1 y2, fun q hq => by
      rcases List.mem_append.mp hq with y | y
      · exact hS.2.2 q y
      · exact hL q y⟩ T' rfl X'
  exact ⟨t2, st t2 a1, b1⟩
theorem am_stk (b : Nat) (sp : Nat → Option Nat) (rv : Option Value) (r : List Value) : (rv.map (am_cv b sp)).toList ++ r.map (am_cv b sp) = (rv.toList ++ r).map (am_cv b sp) := by cases rv <;> rfl
theorem am_npi {M n : Nat} (h : am_np M n = true) : (parseMethodDescriptor (am_Y (am_meth M)).desc).map (fun d => d.parameters.length) = some n ∧ am_O (am_meth M) ≠ 12 := by
  obtain ⟨g1, g2⟩ := am_a2 h
  refine ⟨of_decide_eq_true g1, fun z => ?_⟩
  rw [z] at g2
  cases g2
theorem am_soki {md : am_MD} (h : am_sok md = true) : plainName (am_Y md).cls = true ∧ (am_Y md).cls = am_cn (am_O md) ∧ (am_Y md).cls ≠ "java/lang/invoke/MethodHandle" ∧ (am_Y md).cls ≠ "java/lang/invoke/VarHandle" ∧ am_L md ≤ 41 ∧ (am_N md = true → (am_Y md).name = "<init>") ∧ (am_N md = true → am_R md = none) := by
  obtain ⟨g1, g2⟩ := am_a2 h
  obtain ⟨g3, g4⟩ := am_a2 g1
  obtain ⟨g5, g6⟩ := am_a2 g3
  obtain ⟨g7, g8⟩ := am_a2 g4
  obtain ⟨g9, g10⟩ := am_a2 g7
  obtain ⟨g11, g12⟩ := am_a2 g8
  refine ⟨g5, of_decide_eq_true g6, fun z => ?_, fun z => ?_, Nat.le_of_ble_eq_true g11, fun z => ?_, fun z => ?_⟩
  · rw [decide_eq_true z] at g9; cases g9
  · rw [decide_eq_true z] at g10; cases g10
  · have g13 : am_N md = decide ((am_Y md).name = "<init>") := of_decide_eq_true g12
    rw [z] at g13
    exact of_decide_eq_true g13.symm
  · rw [z] at g2
    exact of_decide_eq_true g2
/-- a call by its contract -/
theorem am_cl_met (F : am_Fx p s m args meth c D ty b sp xs L md) (X : am_St s D ty b sp xs L md H locs ls l kr h) (he : am_T md pc = some e) (hc : am_call md e.1 kr.1 st = some (false, md1, As, rest)) (hM : am_Mt l0 D ty b sp xs L md1 d As kr h rv1 kr1 h1) (hfr : d + 1 ≤ R.frames ∧ 60 * (d + 1) ≤ R.locals) (hroom : cells + (kr1.1 - kr.1) ≤ R.cells ∧ slots + (am_S kr1.1 - am_S kr.1) ≤ R.slots)
    (kk : ∀ (H1 : Heap) (locs1 : List Loc), am_RP D ty b xs L kr1 h1 H1 → va_S (fun q => b ≤ q) s.heap H1 locs1 → W p l0 e0 R s m args below meth c H1 locs1 (cells + (kr1.1 - kr.1)) (slots + (am_S kr1.1 - am_S kr.1)) Q (F0 m (pc + 3) ls ((rv1.toList ++ rest).map (am_cv b sp)))) : W p l0 e0 R s m args below meth c H locs cells slots Q (F0 m pc ls (st.map (am_cv b sp))) := by
  obtain ⟨⟨hx, hb, hml, hown⟩, hts, hK, hE, hok, hini, hL⟩ := id F
  have hd := hok.1 pc e he
  have kk2 : ∀ (H1 : Heap) (locs1 : List Loc), am_RP D ty b xs L kr1 h1 H1 → va_S (fun q => b ≤ q) s.heap H1 locs1 → W p l0 e0 R s m args below meth c H1 locs1 (cells + (kr1.1 - kr.1)) (slots + (am_S kr1.1 - am_S kr.1)) Q (F0 m (pc + 3) ls ((rv1.map (am_cv b sp)).toList ++ rest.map (am_cv b sp))) := fun H1 locs1 y1 y2 => by rw [am_stk]; exact kk H1 locs1 y1 y2
  obtain ⟨ins, tg, kc⟩ := e
  cases ins with
  | invokevirtual x =>
    obtain ⟨M, n, ⟨p1, p2, p3, p4⟩, cc, As', hca, -, rfl, rfl, rfl, hlen, hrc, hsum⟩ := am_call_v hc
    have hok1 := am_meth_ok M
    obtain ⟨s1, s2, s3, s4, s5, s6, s7⟩ := am_soki hok1.2.1
    obtain ⟨g1, g2⟩ := am_a2 (am_ca_ok hca : am_cok _ _ (0, M, n, p1, p2, p3, p4) = true)
    obtain ⟨g3, g4⟩ := am_a2 g1
    obtain ⟨g5, g6⟩ := am_a2 g2
    obtain ⟨g7, g8⟩ := am_a2 g6
    obtain ⟨n1, n2⟩ := am_npi g3
    obtain ⟨a, ea, hcell⟩ := am_recv F X hrc
    rw [← s2] at hcell
    have hcode := am_Win (hok1.2.2 n2) rfl
    have hG : GoodIn am_W (wsV (am_cn (am_O md)) x (am_Y (am_meth M)).cls (am_Y (am_meth M)) (am_ws (am_meth M))) := am_good (fun w hw => by
      rcases List.mem_append.mp hw with hw | hw
      · rcases List.mem_cons.mp hw with rfl | hw
        · exact am_Win (am_at_in g4) rfl
        · rcases List.mem_cons.mp hw with rfl | hw
          · exact am_Win (am_at_in g5) rfl
          · rcases List.mem_cons.mp hw with rfl | hw
            · exact am_Win (am_at_in g8) rfl
            · rw [List.mem_singleton.mp hw]
              exact am_Win (am_at_in g7) rfl
      · rcases List.mem_cons.mp hw with rfl | hw
        · exact hcode
        · exact hw)
    refine am_callA (va_runV (As := As'.map (am_cv b sp)) (rest := rest.map (am_cv b sp)) (b := a) (C := (am_Y (am_meth M)).cls) ⟨hx, hb, hml, hown, hts⟩ hM (cwV n hts hG rfl rfl rfl ⟨rfl, s3, s4, n1⟩ ⟨hfr.1, ?_⟩) ⟨am_blind, hcell, fun U hU hW => ⟨?_, am_pre F X U hU hW⟩⟩ rfl (by rw [List.length_map]; exact hlen) X.2.2.1 ?_ (lv_room (by rw [am_sum_cv]; exact hsum)) (am_dd hd) hroom) X.2.1 kk2
    · show 8 + (am_L (am_meth M) + 11) + 60 * d ≤ R.locals
      omega
    · rw [List.map_cons, ea]
    · show (As'.reverse ++ .ref cc :: rest).map (am_cv b sp) = (As'.map (am_cv b sp)).reverse ++ .ref a :: rest.map (am_cv b sp)
      rw [List.map_append, List.map_reverse, List.map_cons, ea]
  | invokestatic x =>
    rcases am_call_s hc with ⟨M, n, ⟨p1, p2, p3, p4⟩, hca, -, rfl, rfl, hlen, hsum⟩ | ⟨_, _, _, _, z, _⟩
    · have hok1 := am_meth_ok M
      obtain ⟨s1, s2, s3, s4, s5, s6, s7⟩ := am_soki hok1.2.1
      rcases hca with hca | hca
      · obtain ⟨g1, g2⟩ := am_a2 (am_ca_ok hca : am_cok _ _ (1, M, n, p1, p2, p3, p4) = true)
        obtain ⟨g3, g4⟩ := am_a2 g1
        obtain ⟨g5, g6⟩ := am_a2 g2
        obtain ⟨n1, n2⟩ := am_npi g3
        have hcode := am_Win (hok1.2.2 n2) rfl
        have hG : GoodIn am_W (va_wsS (am_cn (am_O md)) x (am_Y (am_meth M)) (am_ws (am_meth M))) := am_good (fun w hw => by
          rcases List.mem_append.mp hw with hw | hw
          · rcases List.mem_cons.mp hw with rfl | hw
            · exact am_Win (am_at_in g4) rfl
            · rcases List.mem_cons.mp hw with rfl | hw
              · exact am_Win (am_at_in g5) rfl
              · rw [List.mem_singleton.mp hw]
                exact am_Win (am_at_in g6) rfl
          · rcases List.mem_cons.mp hw with rfl | hw
            · exact hcode
            · exact hw)
        refine am_callA (va_runS (As := As.map (am_cv b sp)) (rest := rest.map (am_cv b sp)) ⟨hx, hb, hml, hown, hts⟩ hM (va_cwS n hts hG rfl rfl rfl ⟨s3, s4, n1⟩ ⟨hfr.1, ?_⟩) ⟨am_blind, fun U hU hW => ⟨rfl, am_pre F X U hU hW⟩⟩ rfl (by rw [List.length_map]; exact hlen) X.2.2.1 ?_ (lv_room (by rw [am_sum_cv]; exact hsum)) (am_dd hd) hroom) X.2.1 kk2
        · show 8 + (am_L (am_meth M) + 11) + 60 * d ≤ R.locals
          omega
        · show (As.reverse ++ rest).map (am_cv b sp) = (As.map (am_cv b sp)).reverse ++ rest.map (am_cv b sp)
          rw [List.map_append, List.map_reverse]
      · obtain ⟨g1, g2⟩ := am_a2 (am_ca_ok hca : am_cok _ _ (2, M, n, p1, p2, p3, p4) = true)
        obtain ⟨g3, g4⟩ := am_a2 g1
        obtain ⟨g5, g6⟩ := am_a2 g2
        obtain ⟨n1, n2⟩ := am_npi g3
        have hcode := am_Win (hok1.2.2 n2) rfl
        have hG : GoodIn am_W (am_ws (am_meth M)) := am_good (fun w hw => by
          rcases List.mem_cons.mp hw with rfl | hw
          · exact hcode
          · exact hw)
        have hne := hE.2.2.2.2.2.2.1 _ (of_decide_eq_true g4)
        refine am_callA (va_runSN (As := As.map (am_cv b sp)) (rest := rest.map (am_cv b sp)) ⟨hx, hb, hml, hown, hts⟩ hM ⟨va_cnB n hts hG rfl rfl rfl hne (hts _ (am_Win (am_at_in g6) rfl)) ⟨s3, s4, n1⟩ ⟨hfr.1, ?_⟩, hts _ (am_Win (am_at_in g5) rfl), trivial⟩ ⟨am_blind, fun U hU hW => ⟨rfl, am_pre F X U hU hW⟩⟩ rfl (by rw [List.length_map]; exact hlen) X.2.2.1 ?_ (lv_room (by rw [am_sum_cv]; exact hsum)) (am_dd hd) hroom) X.2.1 kk2
        · show 8 + (am_L (am_meth M) + 11) + 60 * d ≤ R.locals
          omega
        · show (As.reverse ++ rest).map (am_cv b sp) = (As.map (am_cv b sp)).reverse ++ rest.map (am_cv b sp)
          rw [List.map_append, List.map_reverse]
    · cases z
  | invokespecial x =>
    rcases am_call_p hc with ⟨M, n, ⟨p1, p2, p3, p4⟩, cc, As', hca, -, rfl, rfl, rfl, hlen, c1, c2, hsum⟩ | ⟨_, _, _, z, _⟩
    · have hok1 := am_meth_ok M
      obtain ⟨s1, s2, s3, s4, s5, s6, s7⟩ := am_soki hok1.2.1
      obtain ⟨g1, g2⟩ := am_a2 (am_ca_ok hca : am_cok _ _ (3, M, n, p1, p2, p3, p4) = true)
      obtain ⟨g3, g4⟩ := am_a2 g1
      obtain ⟨g5, g6⟩ := am_a2 g2
      obtain ⟨g7, g8⟩ := am_a2 g6
      obtain ⟨n1, n2⟩ := am_npi g3
      have hcode := am_Win (hok1.2.2 n2) rfl
      have hG : GoodIn am_W (am_ws (am_meth M)) := am_good (fun w hw => by
        rcases List.mem_cons.mp hw with rfl | hw
        · exact hcode
        · exact hw)
      refine am_callA (va_runI (As := As'.map (am_cv b sp)) (rest := rest.map (am_cv b sp)) (b := b + cc) ⟨hx, hb, hml, hown, hts⟩ hM (cwI n hts hG (ws' := am_W) (by unfold am_ws; rw [s7 g8]) rfl rfl (hts _ (am_Win (am_at_in g7) rfl)) (hts _ (am_Win (am_at_in g4) rfl)) (hts _ (am_Win (am_at_in g5) rfl)) (s6 g8) ⟨s3, s4, n1⟩ ⟨hfr.1, ?_⟩) ⟨am_blind, fun U hU hW => ⟨?_, am_pre F X U hU hW⟩⟩ rfl (by rw [List.length_map]; exact hlen) X.2.2.1 ?_ (lv_room (by rw [am_sum_cv]; exact hsum)) (am_dd hd) hroom) X.2.1 kk2
      · show 8 + (am_L (am_meth M) + 11) + 60 * d ≤ R.locals
        omega
      · rw [List.map_cons, am_cv_lt c1]
      · show (As'.reverse ++ .ref cc :: rest).map (am_cv b sp) = (As'.map (am_cv b sp)).reverse ++ .ref (b + cc) :: rest.map (am_cv b sp)
        rw [List.map_append, List.map_reverse, List.map_cons, am_cv_lt c1]
    · cases z
  | _ => exact absurd (show (none : Option (Bool × am_MD × List Value × List Value)) = some _ from hc) (fun z => by cases z)
/-- a call that is done at once -/
theorem am_cl_now (F : am_Fx p s m args meth c D ty b sp xs L md) (X : am_St s D ty b sp xs L md H locs ls l kr h) (he : am_T md pc = some e) (hc : am_call md e.1 kr.1 st = some (true, md1, As, rest)) (hfr : d + 1 ≤ R.frames ∧ 60 * (d + 1) ≤ R.locals) (hroom : cells ≤ R.cells ∧ slots ≤ R.slots)
    (kk : W p l0 e0 R s m args below meth c H locs cells slots Q (F0 m (pc + 3) ls (rest.map (am_cv b sp)))) : W p l0 e0 R s m args below meth c H locs cells slots Q (F0 m pc ls (st.map (am_cv b sp))) := by
  obtain ⟨⟨hx, hb, hml, hown⟩, hts, hK, hE, hok, hini, hL⟩ := id F
  have hd := hok.1 pc e he
  obtain ⟨ins, tg, kc⟩ := e
  have hmlls : c.maxLocals = ls.size := hml.trans X.2.2.1.symm
  cases ins with
  | invokevirtual x =>
    obtain ⟨_, _, _, _, _, _, z, _⟩ := am_call_v hc
    cases z
  | invokestatic x =>
    rcases am_call_s hc with ⟨_, _, _, _, z, _⟩ | ⟨⟨q0, q1, q2, q3, q4, q5⟩, a, y, r, -, rfl, hsum, ⟨hca, rfl⟩ | ⟨hca, rfl⟩⟩
    · cases z
    · obtain ⟨g1, g2⟩ := am_a2 (am_ca_ok hca : am_cok _ _ (5, q0, q1, q2, q3, q4, q5) = true)
      obtain ⟨g3, g4⟩ := am_a2 g2
      exact va_mmin hx hb hmlls hown (hts _ (am_Win (am_at_in g1) rfl)) (hts _ (am_Win (am_at_in g3) rfl)) (hts _ (am_Win (am_at_in g4) rfl)) (hts _ (am_Win am_co5 rfl)) (by omega) (by rw [am_sum_cv]; omega) hroom.1 hroom.2 (am_dd hd) kk
    · obtain ⟨g1, g2⟩ := am_a2 (am_ca_ok hca : am_cok _ _ (6, q0, q1, q2, q3, q4, q5) = true)
      obtain ⟨g3, g4⟩ := am_a2 g2
      exact va_mmax hx hb hmlls hown (hts _ (am_Win (am_at_in g1) rfl)) (hts _ (am_Win (am_at_in g3) rfl)) (hts _ (am_Win (am_at_in g4) rfl)) (hts _ (am_Win am_co6 rfl)) (by omega) (by rw [am_sum_cv]; omega) hroom.1 hroom.2 (am_dd hd) kk
  | invokespecial x =>
    rcases am_call_p hc with ⟨_, _, _, _, _, _, z, _⟩ | ⟨⟨q0, q1, q2, q3, q4, q5⟩, cc, hca, -, rfl, c1, hsum⟩
    · cases z
    · obtain ⟨g1, g2⟩ := am_a2 (am_ca_ok hca : am_cok _ _ (4, q0, q1, q2, q3, q4, q5) = true)
      rw [List.map_cons, am_cv_lt c1]
      exact W.objInit hx hb hown (hts _ (am_Win (am_at_in g1) rfl)) (hts _ (am_Win (am_at_in g2) rfl)) (hts _ (am_Win am_co4 rfl)) rfl hmlls.symm rfl (am_dd hd) (by omega) (by show 2 * 0 + ((rest.map (am_cv b sp)).map fun v => v.category).sum + 12 ≤ R.locals; rw [am_sum_cv]; omega) kk
  | _ => exact absurd (show (none : Option (Bool × am_MD × List Value × List Value)) = some _ from hc) (fun z => by cases z)
end STEP
