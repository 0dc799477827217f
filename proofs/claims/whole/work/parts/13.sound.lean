/-! WHOLE RUNS: the theorem -/
def am_SD (l0 : Launch) (D : va_G) (ty : Nat → ClassId) (b : Nat) (sp : Nat → Option Nat) (xs : Nat → Int32) (L n : Nat) : Prop :=
  ∀ (d : Nat) (md : am_MD) (pc : Nat) (l : am_LV) (st : List Value) (kr : Nat × Nat) (h : am_H) (rv : Option Value) (kr' : Nat × Nat) (h' : am_H), am_exec n d md pc l st kr h = some (rv, kr', h') →
  ∀ (p : Program) (e0 : Env) (R : Room) (s : State) (m : MethodId) (args : Array Value) (below : List Frame) (meth : Method) (c : Code) (H : Heap) (locs : List Loc) (cells slots : Nat) (Q : State → Prop) (ls : Array Slot),
  am_Fx p s m args meth c D ty b sp xs L md → am_St s D ty b sp xs L md H locs ls l kr h → (d ≤ R.frames ∧ 60 * d ≤ R.locals) → (cells + (kr'.1 - kr.1) ≤ R.cells ∧ slots + (am_S kr'.1 - am_S kr.1) ≤ R.slots) →
  (∀ (H' : Heap) (locs' : List Loc) (ls' : Array Slot) (pc' : Nat) (e : am_E) (l' : am_LV) (stk : List Value), am_T md pc' = some e → am_kd e.1 = 1 → am_ret md e.1 stk = some rv → am_St s D ty b sp xs L md H' locs' ls' l' kr' h' → W p l0 e0 R s m args below meth c H' locs' (cells + (kr'.1 - kr.1)) (slots + (am_S kr'.1 - am_S kr.1)) Q (F0 m pc' ls' (stk.map (am_cv b sp)))) →
  W p l0 e0 R s m args below meth c H locs cells slots Q (F0 m pc ls (st.map (am_cv b sp)))
theorem am_met {l0 : Launch} {D : va_G} {ty : Nat → ClassId} {b : Nat} {sp : Nat → Option Nat} {xs : Nat → Int32} {L n : Nat} (ih : am_SD l0 D ty b sp xs L n) {d : Nat} {md : am_MD} {As : List Value} {kr : Nat × Nat} {h : am_H} {rv : Option Value} {kr' : Nat × Nat} {h' : am_H} (hx : am_exec n d md 0 (lv_args 0 As) [] kr h = some (rv, kr', h')) (hok : am_mok md) (hsum : am_sum As ≤ am_L md) : am_Mt l0 D ty b sp xs L md d As kr h rv kr' h' := by
  obtain ⟨s1, s2, s3, s4, s5, s6, s7⟩ := am_soki hok.2.1
  refine Met.ofW (cc := am_B md) (maxL := am_L md) (ret := am_R md) s1 rfl ?_
  intro p e s m args below meth c s₁ B hml hv
  obtain ⟨rfl, hRP, hK, hE, hL⟩ := hv
  have hown : s.vm.findClass (am_cn (am_O md)) = some m.cls := by rw [← s2]; exact findClass_of_methodNamed B.named
  have hts := atoms_spec (ws := am_ws md) B.pre
  have F : am_Fx p s m (As.map (am_cv b sp)).toArray meth c D ty b sp xs L md := ⟨⟨B.exec, B.bytes, hml, hown⟩, fun w hw => hts w (List.mem_cons_of_mem _ hw), hK, hE, hok, fun z => ((name_of_methodNamed B.named B.method).1).trans (s6 z), hL⟩
  have hlocks := B.notSynchronized
  have hr := B.returns
  have hl := lv_entry (As.map (am_cv b sp)) (n := am_L md) (by rw [am_lg]; exact hsum)
  rw [am_args] at hl
  rw [lg_entry_eq]
  refine ih d md 0 (lv_args 0 As) [] kr h rv kr' h' hx p e _ s m _ below meth c s.heap [] 0 0 _ _ F ⟨hRP, va_S.rf, hl⟩ ⟨Nat.le_refl _, Nat.le_refl _⟩ ⟨by rw [Nat.zero_add]; exact Nat.le_refl _, by rw [Nat.zero_add]; exact Nat.le_refl _⟩ ?_
  intro H' locs' ls' pc' e' l' stk he hkd hret X'
  rw [Nat.zero_add, Nat.zero_add]
  have hd := hok.1 pc' e' he
  have hf : ∀ q ∈ locs', b ≤ q.base := X'.2.1.2.2
  obtain ⟨ins, tg, kc⟩ := e'
  rcases am_ret_i hret with ⟨x, y, hi, rfl, g1, g2, rfl⟩ | ⟨x, hi, rfl, g1, rfl⟩ | ⟨x, hi, rfl, g1, rfl⟩ | ⟨hi, rfl, g1, rfl⟩
  · have hi : ins = .ireturn := hi
    subst hi
    exact W.zret B.exec B.bytes (hr.trans g1) (am_fit_n g2) (fun t ht _ => ⟨rfl, by rw [ht]; exact X'.1, X'.2.1.F ht⟩) hf (am_dd hd)
  · have hi : ins = .lreturn := hi
    subst hi
    have g2 : am_R md = some .long := by
      revert g1
      cases am_R md with
      | none => intro z; cases z
      | some y => cases y <;> intro z <;> first | rfl | cases z
    exact W.lret B.exec B.bytes (hr.trans g2) (fun t ht _ => ⟨rfl, by rw [ht]; exact X'.1, X'.2.1.F ht⟩) hf (am_dd hd)
  · have hi : ins = .areturn := hi
    subst hi
    obtain ⟨rt, g2, g3⟩ : ∃ rt, am_R md = some rt ∧ ((∃ n, rt = .object n) ∨ ∃ t, rt = .array t) := by
      revert g1
      cases hz : am_R md with
      | none => intro z; cases z
      | some y => intro z; exact ⟨y, rfl, am_isr_i z⟩
    refine W.aret (v := am_cv b sp (.ref x)) B.exec B.bytes (hr.trans g2) g3 ?_ (fun t ht _ => ⟨rfl, by rw [ht]; exact X'.1, X'.2.1.F ht⟩) hf (am_dd hd)
    rcases am_cv_ref b sp x with z | z
    · exact Or.inr z
    · exact Or.inl z
  · have hi : ins = .return_ := hi
    subst hi
    exact W.vret B.exec B.bytes (hr.trans g1) (fun t ht _ => ⟨rfl, by rw [ht]; exact X'.1, X'.2.1.F ht⟩) hf (am_dd hd)
theorem am_sound (l0 : Launch) (D : va_G) (ty : Nat → ClassId) (b : Nat) (sp : Nat → Option Nat) (xs : Nat → Int32) (L : Nat) : ∀ n, am_SD l0 D ty b sp xs L n := by
  intro n
  induction n with
  | zero =>
    intro d md pc l st kr h rv kr' h' q
    cases q
  | succ n ih =>
    intro d md pc l st kr h rv kr' h' q p e0 R s m args below meth c H locs cells slots Q ls F X hfr hroom hret
    unfold am_exec at q
    split at q
    · cases q
    · rename_i e he
      split at q
      · split at q
        · rename_i pc1 l1 st1 kr1 h1 hs
          have m1 : kr.1 ≤ kr1.1 := am_stp_k hs
          have m2 : kr1.1 ≤ kr'.1 := am_exec_k _ _ _ _ _ _ _ _ _ _ _ q
          have n1 := am_S_mono m1
          have n2 := am_S_mono m2
          refine am_step F X he hs ⟨by dsimp only; omega, by dsimp only; omega⟩ (fun H' locs' ls' X' => ?_)
          dsimp only at X' ⊢
          refine ih _ _ _ _ _ _ _ _ _ _ q p e0 R s m args below meth c H' locs' _ _ Q ls' F X' hfr ⟨by omega, by omega⟩ ?_
          intro H2 locs2 ls2 pc2 e2 l2 stk y1 y2 y3 y4
          have y5 := hret H2 locs2 ls2 pc2 e2 l2 stk y1 y2 y3 y4
          rw [show cells + (kr1.1 - kr.1) + (kr'.1 - kr1.1) = cells + (kr'.1 - kr.1) by omega, show slots + (am_S kr1.1 - am_S kr.1) + (am_S kr'.1 - am_S kr1.1) = slots + (am_S kr'.1 - am_S kr.1) by omega]
          exact y5
        · cases q
      · rename_i hk
        split at q
        · rename_i r hr
          cases q
          have y5 := hret H locs ls pc e l st he hk hr X
          rw [Nat.sub_self, Nat.sub_self] at y5
          exact y5
        · cases q
      · split at q
        · cases q
        · rename_i d'
          split at q
          · rename_i md1 As rest hc
            have m2 : kr.1 ≤ kr'.1 := am_exec_k _ _ _ _ _ _ _ _ _ _ _ q
            exact am_cl_now F X he hc hfr ⟨by omega, by omega⟩ (ih _ _ _ _ _ _ _ _ _ _ q p e0 R s m args below meth c H locs cells slots Q ls F X hfr hroom hret)
          · rename_i md1 As rest hc
            cases hb : Nat.ble (am_sum As) (am_L md1) with
            | false => rw [hb] at q; cases q
            | true =>
              rw [hb, cond_true] at q
              split at q
              · rename_i rv1 kr1 h1 hx
                have m1 : kr.1 ≤ kr1.1 := am_exec_k _ _ _ _ _ _ _ _ _ _ _ hx
                have m2 : kr1.1 ≤ kr'.1 := am_exec_k _ _ _ _ _ _ _ _ _ _ _ q
                have n1 := am_S_mono m1
                have n2 := am_S_mono m2
                have hok1 : am_mok md1 := by
                  obtain ⟨ins, tg, kc⟩ := e
                  cases ins with
                  | invokevirtual x => obtain ⟨M, _, _, _, _, _, _, rfl, _⟩ := am_call_v hc; exact am_meth_ok M
                  | invokestatic x =>
                    rcases am_call_s hc with ⟨M, _, _, _, _, rfl, _⟩ | ⟨_, _, _, _, z, _⟩
                    · exact am_meth_ok M
                    · cases z
                  | invokespecial x =>
                    rcases am_call_p hc with ⟨M, _, _, _, _, _, _, rfl, _⟩ | ⟨_, _, _, z, _⟩
                    · exact am_meth_ok M
                    · cases z
                  | _ => exact absurd (show (none : Option (Bool × am_MD × List Value × List Value)) = some _ from hc) (fun z => by cases z)
                refine am_cl_met F X he hc (am_met ih hx hok1 (Nat.le_of_ble_eq_true hb)) hfr ⟨by omega, by omega⟩ (fun H1 locs1 z1 z2 => ?_)
                refine ih _ _ _ _ _ _ _ _ _ _ q p e0 R s m args below meth c H1 locs1 _ _ Q ls F ⟨z1, z2, X.2.2⟩ hfr ⟨by omega, by omega⟩ ?_
                intro H2 locs2 ls2 pc2 e2 l2 stk y1 y2 y3 y4
                have y5 := hret H2 locs2 ls2 pc2 e2 l2 stk y1 y2 y3 y4
                rw [show cells + (kr1.1 - kr.1) + (kr'.1 - kr1.1) = cells + (kr'.1 - kr.1) by omega, show slots + (am_S kr1.1 - am_S kr.1) + (am_S kr'.1 - am_S kr1.1) = slots + (am_S kr'.1 - am_S kr.1) by omega]
                exact y5
              · cases q
          · cases q
