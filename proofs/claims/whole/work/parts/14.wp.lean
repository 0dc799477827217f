/-! WHAT A RUN OF THE ABSTRACT MACHINE COMES TO: goal first -/
abbrev iN (z : Int) : Int32 := Int32.ofInt z
def am_run : Nat → am_MD → am_C → Option am_C
  | 0, _, C => some C
  | n + 1, md, (pc, l, st, kr, h) => match am_T md pc with
    | none => none
    | some e => match am_kd e.1 with
      | 0 => match am_stp md e pc l st kr h with
        | some C' => am_run n md C'
        | none => none
      | _ => none
def am_wp (d : Nat) (md : am_MD) (pc : Nat) (l : am_LV) (st : List Value) (kr : Nat × Nat) (h : am_H) (kr' : Nat × Nat) (Q : Option Value → am_H → Prop) : Prop := ∃ (n : Nat) (rv : Option Value) (h' : am_H), am_exec n d md pc l st kr h = some (rv, kr', h') ∧ Q rv h'
theorem am_kd_le (i : Instr) : am_kd i ≤ 2 := by unfold am_kd; split <;> decide
section EX
variable {n d : Nat} {md md1 : am_MD} {pc : Nat} {l : am_LV} {st As rest : List Value} {kr kr1 : Nat × Nat} {h h1 : am_H} {o : Option Value × (Nat × Nat) × am_H} {e : am_E}
theorem am_ex0 (q1 : am_T md pc = some e) (q2 : am_kd e.1 = 0) {C : am_C} (q3 : am_stp md e pc l st kr h = some C) : am_exec (n + 1) d md pc l st kr h = am_exec n d md C.1 C.2.1 C.2.2.1 C.2.2.2.1 C.2.2.2.2 := by
  rw [am_exec]
  simp only [q1, q2, q3]
theorem am_ex1 (q1 : am_T md pc = some e) (q2 : am_kd e.1 = 1) {r : Option Value} (q3 : am_ret md e.1 st = some r) : am_exec (n + 1) d md pc l st kr h = some (r, kr, h) := by
  rw [am_exec]
  simp only [q1, q2, q3]
theorem am_ex2 (q1 : am_T md pc = some e) (q2 : am_kd e.1 = 2) (q3 : am_call md e.1 kr.1 st = some (true, md1, As, rest)) : am_exec (n + 1) (d + 1) md pc l st kr h = am_exec n (d + 1) md (pc + 3) l rest kr h := by
  rw [am_exec]
  simp only [q1, q2, q3]
theorem am_ex3 (q1 : am_T md pc = some e) (q2 : am_kd e.1 = 2) (q3 : am_call md e.1 kr.1 st = some (false, md1, As, rest)) (q4 : Nat.ble (am_sum As) (am_L md1) = true) {rv : Option Value} (q5 : am_exec n d md1 0 (lv_args 0 As) [] kr h = some (rv, kr1, h1)) : am_exec (n + 1) (d + 1) md pc l st kr h = am_exec n (d + 1) md (pc + 3) l (rv.toList ++ rest) kr1 h1 := by
  rw [am_exec]
  simp only [q1, q2, q3, q4, q5, cond_true]
theorem am_ex_inv (q : am_exec (n + 1) d md pc l st kr h = some o) : ∃ e, am_T md pc = some e ∧
    ((am_kd e.1 = 0 ∧ ∃ C, am_stp md e pc l st kr h = some C ∧ am_exec n d md C.1 C.2.1 C.2.2.1 C.2.2.2.1 C.2.2.2.2 = some o) ∨
     (am_kd e.1 = 1 ∧ ∃ r, am_ret md e.1 st = some r ∧ o = (r, kr, h)) ∨
     (am_kd e.1 = 2 ∧ ∃ d', d = d' + 1 ∧ ((∃ md1 As rest, am_call md e.1 kr.1 st = some (true, md1, As, rest) ∧ am_exec n (d' + 1) md (pc + 3) l rest kr h = some o) ∨
       (∃ md1 As rest rv kr1 h1, am_call md e.1 kr.1 st = some (false, md1, As, rest) ∧ Nat.ble (am_sum As) (am_L md1) = true ∧ am_exec n d' md1 0 (lv_args 0 As) [] kr h = some (rv, kr1, h1) ∧ am_exec n (d' + 1) md (pc + 3) l (rv.toList ++ rest) kr1 h1 = some o)))) := by
  unfold am_exec at q
  split at q
  · cases q
  · rename_i e he
    refine ⟨e, he, ?_⟩
    split at q
    · rename_i hk
      split at q
      · rename_i hs
        exact Or.inl ⟨hk, _, hs, q⟩
      · cases q
    · rename_i hk
      split at q
      · rename_i r hr
        exact Or.inr (Or.inl ⟨hk, r, hr, (Option.some.inj q).symm⟩)
      · cases q
    · rename_i k0 k1
      have hk : am_kd e.1 = 2 := by
        have := am_kd_le e.1
        have a0 : am_kd e.1 ≠ 0 := k0
        have a1 : am_kd e.1 ≠ 1 := k1
        omega
      split at q
      · cases q
      · rename_i d'
        refine Or.inr (Or.inr ⟨hk, d', rfl, ?_⟩)
        split at q
        · rename_i md1 As rest hc
          exact Or.inl ⟨md1, As, rest, hc, q⟩
        · rename_i md1 As rest hc
          cases hb : Nat.ble (am_sum As) (am_L md1) with
          | false => rw [hb] at q; cases q
          | true =>
            rw [hb, cond_true] at q
            split at q
            · rename_i rv1 kr1 h1 hx
              exact Or.inr ⟨md1, As, rest, rv1, kr1, h1, hc, hb, hx, q⟩
            · cases q
        · cases q
end EX
theorem am_run_exec (md : am_MD) (d n : Nat) : ∀ (k pc : Nat) (l : am_LV) (st : List Value) (kr : Nat × Nat) (h : am_H) (pc1 : Nat) (l1 : am_LV) (st1 : List Value) (kr1 : Nat × Nat) (h1 : am_H), am_run k md (pc, l, st, kr, h) = some (pc1, l1, st1, kr1, h1) → am_exec (n + k) d md pc l st kr h = am_exec n d md pc1 l1 st1 kr1 h1 := by
  intro k
  induction k with
  | zero => intro pc l st kr h pc1 l1 st1 kr1 h1 q; cases q; rfl
  | succ k ih =>
    intro pc l st kr h pc1 l1 st1 kr1 h1 q
    unfold am_run at q
    split at q
    · cases q
    · rename_i e he
      split at q
      · rename_i hk
        split at q
        · rename_i C' hs
          obtain ⟨pc2, l2, st2, kr2, h2⟩ := C'
          exact (am_ex0 he hk hs).trans (ih _ _ _ _ _ _ _ _ _ _ q)
        · cases q
      · cases q
theorem am_exec_mono : ∀ (n d : Nat) (md : am_MD) (pc : Nat) (l : am_LV) (st : List Value) (kr : Nat × Nat) (h : am_H) (o : Option Value × (Nat × Nat) × am_H), am_exec n d md pc l st kr h = some o → ∀ k, am_exec (n + k) d md pc l st kr h = some o := by
  intro n
  induction n with
  | zero => intro d md pc l st kr h o q; cases q
  | succ n ih =>
    intro d md pc l st kr h o q k
    rw [Nat.add_right_comm]
    obtain ⟨e, he, ⟨hk, C, hs, q⟩ | ⟨hk, r, hr, rfl⟩ | ⟨hk, d', rfl, ⟨md1, As, rest, hc, q⟩ | ⟨md1, As, rest, rv, kr1, h1, hc, hb, hx, q⟩⟩⟩ := am_ex_inv q
    · exact (am_ex0 he hk hs).trans (ih _ _ _ _ _ _ _ _ q k)
    · exact am_ex1 he hk hr
    · exact (am_ex2 he hk hc).trans (ih _ _ _ _ _ _ _ _ q k)
    · exact (am_ex3 he hk hc hb (ih _ _ _ _ _ _ _ _ hx k)).trans (ih _ _ _ _ _ _ _ _ q k)
section WP
variable {d : Nat} {md md1 : am_MD} {pc pc1 : Nat} {l l1 : am_LV} {st st1 As rest : List Value} {kr kr1 kr' : Nat × Nat} {h h1 : am_H} {Q Q1 : Option Value → am_H → Prop}
theorem wp_run {k : Nat} (e : am_run k md (pc, l, st, kr, h) = some (pc1, l1, st1, kr1, h1)) (q : am_wp d md pc1 l1 st1 kr1 h1 kr' Q) : am_wp d md pc l st kr h kr' Q := by
  obtain ⟨n, rv, h', q1, q2⟩ := q
  exact ⟨n + k, rv, h', (am_run_exec md d n k _ _ _ _ _ _ _ _ _ _ e).trans q1, q2⟩
theorem wp_con (q : am_wp d md pc l st kr h kr' Q1) (hq : ∀ rv h', Q1 rv h' → Q rv h') : am_wp d md pc l st kr h kr' Q := by
  obtain ⟨n, rv, h', q1, q2⟩ := q
  exact ⟨n, rv, h', q1, hq _ _ q2⟩
/-- the call that stands at pc -/
def am_nxt (md : am_MD) (pc k : Nat) (st : List Value) : Option (am_MD × List Value × List Value) := match am_T md pc with
  | none => none
  | some e => match am_kd e.1 with
    | 2 => match am_call md e.1 k st with
      | some (false, md', As, rest) => bif Nat.ble (am_sum As) (am_L md') then some (md', As, rest) else none
      | _ => none
    | _ => none
def am_now (md : am_MD) (pc k : Nat) (st : List Value) : Option (List Value) := match am_T md pc with
  | none => none
  | some e => match am_kd e.1 with
    | 2 => match am_call md e.1 k st with
      | some (true, _, _, rest) => some rest
      | _ => none
    | _ => none
def am_rtn (md : am_MD) (pc : Nat) (st : List Value) : Option (Option Value) := match am_T md pc with
  | none => none
  | some e => match am_kd e.1 with
    | 1 => am_ret md e.1 st
    | _ => none
theorem wp_call (e : am_nxt md pc kr.1 st = some (md1, As, rest)) (q : am_wp d md1 0 (lv_args 0 As) [] kr h kr1 Q1) (kk : ∀ rv h1, Q1 rv h1 → am_wp (d + 1) md (pc + 3) l (rv.toList ++ rest) kr1 h1 kr' Q) : am_wp (d + 1) md pc l st kr h kr' Q := by
  obtain ⟨n, rv, h', q1, q2⟩ := q
  obtain ⟨n2, rv2, h2, q3, q4⟩ := kk rv h' q2
  refine ⟨n + n2 + 1, rv2, h2, ?_, q4⟩
  unfold am_nxt at e
  split at e
  · cases e
  · rename_i ee he
    split at e
    · rename_i hk
      split at e
      · rename_i md2 As2 rest2 hc
        cases hb : Nat.ble (am_sum As2) (am_L md2) with
        | false => rw [hb] at e; cases e
        | true =>
          rw [hb, cond_true] at e
          cases e
          refine (am_ex3 he hk hc hb (am_exec_mono _ _ _ _ _ _ _ _ _ q1 n2)).trans ?_
          rw [Nat.add_comm n n2]
          exact am_exec_mono _ _ _ _ _ _ _ _ _ q3 n
      · cases e
    · cases e
theorem wp_now (e : am_now md pc kr.1 st = some rest) (kk : am_wp (d + 1) md (pc + 3) l rest kr h kr' Q) : am_wp (d + 1) md pc l st kr h kr' Q := by
  obtain ⟨n, rv, h', q1, q2⟩ := kk
  refine ⟨n + 1, rv, h', ?_, q2⟩
  unfold am_now at e
  split at e
  · cases e
  · rename_i ee he
    split at e
    · rename_i hk
      split at e
      · rename_i hc
        cases e
        exact (am_ex2 he hk hc).trans q1
      · cases e
    · cases e
theorem wp_ret {rv : Option Value} (e : am_rtn md pc st = some rv) (q : Q rv h) : am_wp d md pc l st kr h kr Q := by
  refine ⟨1, rv, h, ?_, q⟩
  unfold am_rtn at e
  split at e
  · cases e
  · rename_i ee he
    split at e
    · rename_i hk
      exact am_ex1 he hk e
    · cases e
/-- the branch that stands at pc: whether it is taken, where to, what is left -/
def am_bra (md : am_MD) (pc : Nat) (st : List Value) : Option (Bool × Nat × List Value) := match am_T md pc with
  | none => none
  | some e => match e.1, st with
    | .ifCond c _, .int x :: r => some (am_c0 c x, e.2.1, r)
    | .if_icmp c _, .int y :: .int x :: r => some (am_c2 c x y, e.2.1, r)
    | _, _ => none
theorem wp_bra {g : Bool} {tg : Nat} (e : am_bra md pc st = some (g, tg, rest)) (kt : g = true → am_wp d md tg l rest kr h kr' Q) (kf : g = false → am_wp d md (pc + 3) l rest kr h kr' Q) : am_wp d md pc l st kr h kr' Q := by
  have key : am_run 1 md (pc, l, st, kr, h) = some (bif g then tg else pc + 3, l, rest, kr, h) := by
    unfold am_bra at e
    split at e
    · cases e
    · rename_i ee he
      obtain ⟨ins, t, k⟩ := ee
      unfold am_run
      try dsimp only
      try rw [he]
      split at e
      · rename_i c f x r hi
        have hi : ins = .ifCond c f := hi
        subst hi
        cases e
        rfl
      · rename_i c f y x r hi
        have hi : ins = .if_icmp c f := hi
        subst hi
        cases e
        rfl
      · cases e
  cases g with
  | true => exact wp_run key (kt rfl)
  | false => exact wp_run key (kf rfl)
def rgI (a : Int) : Prop := -2147483648 ≤ a ∧ a < 2147483648
theorem iN_toInt {a : Int} (ra : -2147483648 ≤ a ∧ a < 2147483648) : (iN a).toInt = a := Int32.toInt_ofInt_of_le (by omega) (by omega)
theorem iN_lt {a b : Int} (ra : -2147483648 ≤ a ∧ a < 2147483648) (rb : -2147483648 ≤ b ∧ b < 2147483648) : iN a < iN b ↔ a < b := by rw [Int32.lt_iff_toInt_lt, iN_toInt ra, iN_toInt rb]
theorem iN_le {a b : Int} (ra : -2147483648 ≤ a ∧ a < 2147483648) (rb : -2147483648 ≤ b ∧ b < 2147483648) : iN a ≤ iN b ↔ a ≤ b := by rw [Int32.le_iff_toInt_le, iN_toInt ra, iN_toInt rb]
theorem iN_eq {a b : Int} (ra : -2147483648 ≤ a ∧ a < 2147483648) (rb : -2147483648 ≤ b ∧ b < 2147483648) : iN a = iN b ↔ a = b := ⟨fun q => by rw [← iN_toInt ra, ← iN_toInt rb, q], fun q => by rw [q]⟩
theorem iN_self (x : Int32) : iN x.toInt = x := Int32.ofInt_toInt x
theorem iN_clamp {a : Int} (ra : -2147483648 ≤ a ∧ a < 2147483648) : (iN a).toNatClampNeg = a.toNat := by
  show (iN a).toInt.toNat = _
  rw [iN_toInt ra]
theorem iN_nI (n : Nat) : iN (n : Int) = nI n := Int32.ofInt_eq_ofNat
variable {tg : Nat} {a b : Int}
theorem wp_lt (e : am_bra md pc st = some (decide (iN a < iN b), tg, rest)) (ra : -2147483648 ≤ a ∧ a < 2147483648) (rb : -2147483648 ≤ b ∧ b < 2147483648) (kt : a < b → am_wp d md tg l rest kr h kr' Q) (kf : ¬ a < b → am_wp d md (pc + 3) l rest kr h kr' Q) : am_wp d md pc l st kr h kr' Q :=
  wp_bra e (fun z => kt ((iN_lt ra rb).mp (of_decide_eq_true z))) (fun z => kf (fun y => of_decide_eq_false z ((iN_lt ra rb).mpr y)))
theorem wp_ge (e : am_bra md pc st = some (!decide (iN a < iN b), tg, rest)) (ra : -2147483648 ≤ a ∧ a < 2147483648) (rb : -2147483648 ≤ b ∧ b < 2147483648) (kt : b ≤ a → am_wp d md tg l rest kr h kr' Q) (kf : ¬ b ≤ a → am_wp d md (pc + 3) l rest kr h kr' Q) : am_wp d md pc l st kr h kr' Q :=
  wp_bra e (fun z => kt (Int.not_lt.mp (fun y => by rw [decide_eq_true ((iN_lt ra rb).mpr y)] at z; cases z))) (fun z => kf (Int.not_le.mpr ((iN_lt ra rb).mp (of_decide_eq_true (by simpa using z)))))
theorem wp_gt (e : am_bra md pc st = some (decide (iN b < iN a), tg, rest)) (ra : -2147483648 ≤ a ∧ a < 2147483648) (rb : -2147483648 ≤ b ∧ b < 2147483648) (kt : b < a → am_wp d md tg l rest kr h kr' Q) (kf : ¬ b < a → am_wp d md (pc + 3) l rest kr h kr' Q) : am_wp d md pc l st kr h kr' Q := wp_lt e rb ra kt kf
theorem wp_le (e : am_bra md pc st = some (decide (iN a ≤ iN b), tg, rest)) (ra : -2147483648 ≤ a ∧ a < 2147483648) (rb : -2147483648 ≤ b ∧ b < 2147483648) (kt : a ≤ b → am_wp d md tg l rest kr h kr' Q) (kf : ¬ a ≤ b → am_wp d md (pc + 3) l rest kr h kr' Q) : am_wp d md pc l st kr h kr' Q :=
  wp_bra e (fun z => kt ((iN_le ra rb).mp (of_decide_eq_true z))) (fun z => kf (fun y => of_decide_eq_false z ((iN_le ra rb).mpr y)))
theorem wp_eq (e : am_bra md pc st = some (decide (iN a = iN b), tg, rest)) (ra : -2147483648 ≤ a ∧ a < 2147483648) (rb : -2147483648 ≤ b ∧ b < 2147483648) (kt : a = b → am_wp d md tg l rest kr h kr' Q) (kf : ¬ a = b → am_wp d md (pc + 3) l rest kr h kr' Q) : am_wp d md pc l st kr h kr' Q :=
  wp_bra e (fun z => kt ((iN_eq ra rb).mp (of_decide_eq_true z))) (fun z => kf (fun y => of_decide_eq_false z ((iN_eq ra rb).mpr y)))
theorem wp_ne (e : am_bra md pc st = some (!decide (iN a = iN b), tg, rest)) (ra : -2147483648 ≤ a ∧ a < 2147483648) (rb : -2147483648 ≤ b ∧ b < 2147483648) (kt : ¬ a = b → am_wp d md tg l rest kr h kr' Q) (kf : a = b → am_wp d md (pc + 3) l rest kr h kr' Q) : am_wp d md pc l st kr h kr' Q :=
  wp_bra e (fun z => kt (fun y => by rw [decide_eq_true ((iN_eq ra rb).mpr y)] at z; cases z)) (fun z => kf ((iN_eq ra rb).mp (of_decide_eq_true (by simpa using z))))
theorem iN_0 : iN 0 = 0 := by decide
theorem wp_lt0 (e : am_bra md pc st = some (decide (iN a < 0), tg, rest)) (ra : -2147483648 ≤ a ∧ a < 2147483648) (kt : a < 0 → am_wp d md tg l rest kr h kr' Q) (kf : ¬ a < 0 → am_wp d md (pc + 3) l rest kr h kr' Q) : am_wp d md pc l st kr h kr' Q := wp_lt (b := 0) (by rw [iN_0]; exact e) ra (by decide) kt kf
theorem wp_ge0 (e : am_bra md pc st = some (!decide (iN a < 0), tg, rest)) (ra : -2147483648 ≤ a ∧ a < 2147483648) (kt : 0 ≤ a → am_wp d md tg l rest kr h kr' Q) (kf : ¬ 0 ≤ a → am_wp d md (pc + 3) l rest kr h kr' Q) : am_wp d md pc l st kr h kr' Q := wp_ge (b := 0) (by rw [iN_0]; exact e) ra (by decide) kt kf
theorem wp_gt0 (e : am_bra md pc st = some (decide (0 < iN a), tg, rest)) (ra : -2147483648 ≤ a ∧ a < 2147483648) (kt : 0 < a → am_wp d md tg l rest kr h kr' Q) (kf : ¬ 0 < a → am_wp d md (pc + 3) l rest kr h kr' Q) : am_wp d md pc l st kr h kr' Q := wp_gt (b := 0) (by rw [iN_0]; exact e) ra (by decide) kt kf
theorem wp_le0 (e : am_bra md pc st = some (decide (iN a ≤ 0), tg, rest)) (ra : -2147483648 ≤ a ∧ a < 2147483648) (kt : a ≤ 0 → am_wp d md tg l rest kr h kr' Q) (kf : ¬ a ≤ 0 → am_wp d md (pc + 3) l rest kr h kr' Q) : am_wp d md pc l st kr h kr' Q := wp_le (b := 0) (by rw [iN_0]; exact e) ra (by decide) kt kf
theorem wp_eq0 (e : am_bra md pc st = some (decide (iN a = 0), tg, rest)) (ra : -2147483648 ≤ a ∧ a < 2147483648) (kt : a = 0 → am_wp d md tg l rest kr h kr' Q) (kf : ¬ a = 0 → am_wp d md (pc + 3) l rest kr h kr' Q) : am_wp d md pc l st kr h kr' Q := wp_eq (b := 0) (by rw [iN_0]; exact e) ra (by decide) kt kf
theorem wp_ne0 (e : am_bra md pc st = some (!decide (iN a = 0), tg, rest)) (ra : -2147483648 ≤ a ∧ a < 2147483648) (kt : ¬ a = 0 → am_wp d md tg l rest kr h kr' Q) (kf : a = 0 → am_wp d md (pc + 3) l rest kr h kr' Q) : am_wp d md pc l st kr h kr' Q := wp_ne (b := 0) (by rw [iN_0]; exact e) ra (by decide) kt kf
/-- a truth as a number -/
abbrev bI (P : Prop) (hP : Decidable P) : Int := @ite Int P hP 1 0
theorem bI_rg (P : Prop) (hP : Decidable P) : -2147483648 ≤ bI P hP ∧ bI P hP < 2147483648 := by
  unfold bI
  by_cases hq : P
  · rw [if_pos hq]; decide
  · rw [if_neg hq]; decide
theorem wp_eqb {P : Prop} {hP : Decidable P} (e : am_bra md pc st = some (decide (iN (bI P hP) = 0), tg, rest)) (kt : ¬ P → am_wp d md tg l rest kr h kr' Q) (kf : P → am_wp d md (pc + 3) l rest kr h kr' Q) : am_wp d md pc l st kr h kr' Q :=
  wp_eq0 e (bI_rg P hP) (fun z => kt (fun hp => by rw [show bI P hP = 1 from if_pos hp] at z; cases z)) (fun z => kf (@Decidable.byContradiction P hP (fun hp => z (if_neg hp))))
theorem wp_neb {P : Prop} {hP : Decidable P} (e : am_bra md pc st = some (!decide (iN (bI P hP) = 0), tg, rest)) (kt : P → am_wp d md tg l rest kr h kr' Q) (kf : ¬ P → am_wp d md (pc + 3) l rest kr h kr' Q) : am_wp d md pc l st kr h kr' Q :=
  wp_ne0 e (bI_rg P hP) (fun z => kt (@Decidable.byContradiction P hP (fun hp => z (if_neg hp)))) (fun z => kf (fun hp => by rw [show bI P hP = 1 from if_pos hp] at z; cases z))
/-- what stands at pc -/
def am_opc (md : am_MD) (pc : Nat) : Option Instr := (am_T md pc).map (fun e => e.1)
theorem am_opc_e {i : Instr} (e : am_opc md pc = some i) : ∃ t k, am_T md pc = some (i, t, k) := by
  unfold am_opc at e
  cases hT : am_T md pc with
  | none => rw [hT] at e; cases e
  | some x =>
    rw [hT] at e
    obtain ⟨j, t, k⟩ := x
    cases e
    exact ⟨t, k, rfl⟩
theorem am_in_n {z : Int} {j n : Nat} (hz : z = (j : Int)) (hj : j < n) (hn : n < 2147483648) : am_in (iN z) n = true ∧ (iN z).toNatClampNeg = j := by
  subst hz
  have r : -2147483648 ≤ (j : Int) ∧ (j : Int) < 2147483648 := by omega
  have e1 : (iN (j : Int)).toNatClampNeg = j := by rw [iN_clamp r]; rfl
  refine ⟨?_, e1⟩
  unfold am_in
  rw [e1, Bool.and_eq_true]
  refine ⟨?_, Nat.ble_eq_true_of_le hj⟩
  have : ¬ iN (j : Int) < 0 := by
    rw [← iN_0, iN_lt r (by decide)]
    omega
  rw [decide_eq_false this]
  rfl
variable {z : Int} {j n cc : Nat}
theorem wp_iald {f : Nat → Int32} (e : am_opc md pc = some .iaload) (ha : am_ar kr h cc = some (n, f)) (hz : z = (j : Int)) (hj : j < n) (hn : n < 2147483648) {v : Int32} (hv : f j = v) (q : am_wp d md (pc + 1) l (.int v :: st) kr h kr' Q) : am_wp d md pc l (.int (iN z) :: .ref cc :: st) kr h kr' Q := by
  obtain ⟨t, k, hT⟩ := am_opc_e e
  obtain ⟨h2, h3⟩ := am_in_n hz hj hn
  refine wp_run (k := 1) ?_ q
  unfold am_run
  dsimp only
  rw [hT]
  show (match am_iald (pc + 1) l (.int (iN z) :: .ref cc :: st) kr h with | some C' => am_run 0 md C' | none => none) = _
  unfold am_iald
  dsimp only
  rw [ha]
  dsimp only
  rw [h2, cond_true, h3, hv]
  rfl
theorem wp_iast {x : Int32} (e : am_opc md pc = some .iastore) (c1 : cc < 1000) (c2 : cc < kr.1) (c3 : (am_shp cc).1 = 1) (c4 : (am_shp cc).2 = n) (hz : z = (j : Int)) (hj : j < n) (hn : n < 2147483648) (q : am_wp d md (pc + 1) l st kr (am_wr h cc j x) kr' Q) : am_wp d md pc l (.int x :: .int (iN z) :: .ref cc :: st) kr h kr' Q := by
  obtain ⟨t, k, hT⟩ := am_opc_e e
  obtain ⟨h2, h3⟩ := am_in_n hz hj hn
  refine wp_run (k := 1) ?_ q
  unfold am_run
  dsimp only
  rw [hT]
  show (match am_iast (pc + 1) l (.int x :: .int (iN z) :: .ref cc :: st) kr h with | some C' => am_run 0 md C' | none => none) = _
  unfold am_iast
  dsimp only
  rw [c3, c4, h2, h3, show Nat.blt cc 1000 = true from Nat.ble_eq_true_of_le c1, show Nat.blt cc kr.1 = true from Nat.ble_eq_true_of_le c2]
  rfl
theorem wp_cald (e : am_opc md pc = some .caload) (c1 : cc < 1000) (c2 : cc < kr.1) (c3 : (am_shp cc).1 = 2) (c4 : (am_shp cc).2 = n) (hz : z = (j : Int)) (hj : j < n) (hn : n < 2147483648) {v : Int32} (hv : h.1 cc j = v) (q : am_wp d md (pc + 1) l (.int v :: st) kr h kr' Q) : am_wp d md pc l (.int (iN z) :: .ref cc :: st) kr h kr' Q := by
  obtain ⟨t, k, hT⟩ := am_opc_e e
  obtain ⟨h2, h3⟩ := am_in_n hz hj hn
  refine wp_run (k := 1) ?_ q
  unfold am_run
  dsimp only
  rw [hT]
  show (match am_cald (pc + 1) l (.int (iN z) :: .ref cc :: st) kr h with | some C' => am_run 0 md C' | none => none) = _
  unfold am_cald
  dsimp only
  rw [c3, c4, h2, h3, hv, show Nat.blt cc 1000 = true from Nat.ble_eq_true_of_le c1, show Nat.blt cc kr.1 = true from Nat.ble_eq_true_of_le c2]
  rfl
theorem wp_cast {x : Int32} (e : am_opc md pc = some .castore) (c1 : cc < 1000) (c2 : cc < kr.1) (c3 : (am_shp cc).1 = 2) (c4 : (am_shp cc).2 = n) (hz : z = (j : Int)) (hj : j < n) (hn : n < 2147483648) {y : Int32} (hy : x.toUInt32.toUInt16.toUInt32.toInt32 = y) (q : am_wp d md (pc + 1) l st kr (am_wr h cc j y) kr' Q) : am_wp d md pc l (.int x :: .int (iN z) :: .ref cc :: st) kr h kr' Q := by
  obtain ⟨t, k, hT⟩ := am_opc_e e
  obtain ⟨h2, h3⟩ := am_in_n hz hj hn
  refine wp_run (k := 1) ?_ q
  unfold am_run
  dsimp only
  rw [hT]
  show (match am_cast (pc + 1) l (.int x :: .int (iN z) :: .ref cc :: st) kr h with | some C' => am_run 0 md C' | none => none) = _
  unfold am_cast
  dsimp only
  rw [c3, c4, h2, h3, hy, show Nat.blt cc 1000 = true from Nat.ble_eq_true_of_le c1, show Nat.blt cc kr.1 = true from Nat.ble_eq_true_of_le c2]
  rfl
theorem wp_lald (e : am_opc md pc = some .laload) (c1 : cc < 1000) (c2 : cc < kr.1) (c3 : (am_shp cc).1 = 3) (c4 : (am_shp cc).2 = n) (hz : z = (j : Int)) (hj : j < n) (hn : n < 2147483648) {v : Int64} (hv : h.2 cc j = v) (q : am_wp d md (pc + 1) l (.long v :: st) kr h kr' Q) : am_wp d md pc l (.int (iN z) :: .ref cc :: st) kr h kr' Q := by
  obtain ⟨t, k, hT⟩ := am_opc_e e
  obtain ⟨h2, h3⟩ := am_in_n hz hj hn
  refine wp_run (k := 1) ?_ q
  unfold am_run
  dsimp only
  rw [hT]
  show (match am_lald (pc + 1) l (.int (iN z) :: .ref cc :: st) kr h with | some C' => am_run 0 md C' | none => none) = _
  unfold am_lald
  dsimp only
  rw [c3, c4, h2, h3, hv, show Nat.blt cc 1000 = true from Nat.ble_eq_true_of_le c1, show Nat.blt cc kr.1 = true from Nat.ble_eq_true_of_le c2]
  rfl
theorem wp_last {x : Int64} (e : am_opc md pc = some .lastore) (c1 : cc < 1000) (c2 : cc < kr.1) (c3 : (am_shp cc).1 = 3) (c4 : (am_shp cc).2 = n) (hz : z = (j : Int)) (hj : j < n) (hn : n < 2147483648) (q : am_wp d md (pc + 1) l st kr (am_wl h cc j x) kr' Q) : am_wp d md pc l (.long x :: .int (iN z) :: .ref cc :: st) kr h kr' Q := by
  obtain ⟨t, k, hT⟩ := am_opc_e e
  obtain ⟨h2, h3⟩ := am_in_n hz hj hn
  refine wp_run (k := 1) ?_ q
  unfold am_run
  dsimp only
  rw [hT]
  show (match am_last (pc + 1) l (.long x :: .int (iN z) :: .ref cc :: st) kr h with | some C' => am_run 0 md C' | none => none) = _
  unfold am_last
  dsimp only
  rw [c3, c4, h2, h3, show Nat.blt cc 1000 = true from Nat.ble_eq_true_of_le c1, show Nat.blt cc kr.1 = true from Nat.ble_eq_true_of_le c2]
  rfl
theorem wp_div (e : am_opc md pc = some .idiv) (ra : -2147483648 ≤ a ∧ a < 2147483648) (rb : 0 < b ∧ b < 2147483648) (q : am_wp d md (pc + 1) l (.int (iN (a.tdiv b)) :: st) kr h kr' Q) : am_wp d md pc l (.int (iN b) :: .int (iN a) :: st) kr h kr' Q := by
  obtain ⟨t, k, hT⟩ := am_opc_e e
  refine wp_run (k := 1) ?_ q
  have hb0 : ¬ iN b = 0 := by rw [← iN_0, iN_eq (by omega) (by decide)]; omega
  have hdv : iN a / iN b = iN (a.tdiv b) := (Int32.ofInt_tdiv (by show -2147483648 ≤ a; omega) (by show a ≤ 2147483647; omega) (by show -2147483648 ≤ b; omega) (by show b ≤ 2147483647; omega)).symm
  unfold am_run
  dsimp only
  rw [hT]
  show (match am_d2 (pc + 1) l (.int (iN b) :: .int (iN a) :: st) kr h (· / ·) with | some C' => am_run 0 md C' | none => none) = _
  unfold am_d2
  dsimp only
  rw [decide_eq_false hb0, cond_false, hdv]
  rfl
theorem wp_rem (e : am_opc md pc = some .irem) (ra : -2147483648 ≤ a ∧ a < 2147483648) (rb : 0 < b ∧ b < 2147483648) (q : am_wp d md (pc + 1) l (.int (iN (a - a.tdiv b * b)) :: st) kr h kr' Q) : am_wp d md pc l (.int (iN b) :: .int (iN a) :: st) kr h kr' Q := by
  obtain ⟨t, k, hT⟩ := am_opc_e e
  refine wp_run (k := 1) ?_ q
  have hb0 : ¬ iN b = 0 := by rw [← iN_0, iN_eq (by omega) (by decide)]; omega
  have hdv : iN a / iN b = iN (a.tdiv b) := (Int32.ofInt_tdiv (by show -2147483648 ≤ a; omega) (by show a ≤ 2147483647; omega) (by show -2147483648 ≤ b; omega) (by show b ≤ 2147483647; omega)).symm
  unfold am_run
  dsimp only
  rw [hT]
  show (match am_d2 (pc + 1) l (.int (iN b) :: .int (iN a) :: st) kr h (fun x y => x - x / y * y) with | some C' => am_run 0 md C' | none => none) = _
  unfold am_d2
  dsimp only
  rw [decide_eq_false hb0, cond_false, hdv, ← Int32.ofInt_mul, ← Int32.ofInt_sub]
  rfl
theorem wp_alen {v : Int} (e : am_opc md pc = some .arraylength) (ha : am_ln kr h cc = some v) (q : am_wp d md (pc + 1) l (.int (iN v) :: st) kr h kr' Q) : am_wp d md pc l (.ref cc :: st) kr h kr' Q := by
  obtain ⟨t, k, hT⟩ := am_opc_e e
  refine wp_run (k := 1) ?_ q
  unfold am_run
  dsimp only
  rw [hT]
  show (match am_alen (pc + 1) l (.ref cc :: st) kr h with | some C' => am_run 0 md C' | none => none) = _
  unfold am_alen
  dsimp only
  rw [ha]
  rfl
theorem iN_min (ra : -2147483648 ≤ a ∧ a < 2147483648) (rb : -2147483648 ≤ b ∧ b < 2147483648) : (if iN b < iN a then iN b else iN a) = iN (min a b) := by
  by_cases q : b < a
  · rw [if_pos ((iN_lt rb ra).mpr q), show min a b = b by omega]
  · rw [if_neg (fun z => q ((iN_lt rb ra).mp z)), show min a b = a by omega]
theorem iN_max (ra : -2147483648 ≤ a ∧ a < 2147483648) (rb : -2147483648 ≤ b ∧ b < 2147483648) : (if iN a < iN b then iN b else iN a) = iN (max a b) := by
  by_cases q : a < b
  · rw [if_pos ((iN_lt ra rb).mpr q), show max a b = b by omega]
  · rw [if_neg (fun z => q ((iN_lt ra rb).mp z)), show max a b = a by omega]
theorem wp_retb {P : Prop} {hP : Decidable P} (e : am_opc md pc = some .ireturn) (hr : am_R md = some .boolean) (q : Q (some (.int (iN (bI P hP)))) h) : am_wp d md pc l [.int (iN (bI P hP))] kr h kr Q := by
  obtain ⟨t, k, hT⟩ := am_opc_e e
  refine wp_ret (rv := some (.int (iN (bI P hP)))) ?_ q
  unfold am_rtn
  rw [hT]
  show am_ret md .ireturn [.int (iN (bI P hP))] = _
  unfold am_ret
  dsimp only
  rw [hr]
  have hf : am_fit .boolean (iN (bI P hP)) = true := by
    by_cases hp : P
    · rw [show bI P hP = 1 from if_pos hp]; decide
    · rw [show bI P hP = 0 from if_neg hp]; decide
  dsimp only
  rw [hf]
  rfl
end WP
