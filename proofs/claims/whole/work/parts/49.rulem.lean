/-! SWITCHES; RULES: what is reckoned -/
def am_swt (md : am_MD) (pc : Nat) (a : Int) : Option Nat := match am_T md pc with
  | none => none
  | some e => match e.1 with
    | .tableswitch d lo hi o => if a < lo ∨ hi < a then (if 0 ≤ (pc : Int) + d then some ((pc : Int) + d).toNat else none) else match o[(a - lo).toNat]? with
      | some f => if 0 ≤ (pc : Int) + f then some ((pc : Int) + f).toNat else none
      | none => none
    | _ => none
def am_swd (md : am_MD) (pc : Nat) : Option (Int × Int × Nat) := match am_T md pc with
  | none => none
  | some e => match e.1 with
    | .tableswitch d lo hi _ => if 0 ≤ (pc : Int) + d then some (lo, hi, ((pc : Int) + d).toNat) else none
    | _ => none
theorem wp_swt {d : Nat} {md : am_MD} {pc tg : Nat} {l : am_LV} {rest : List Value} {kr kr' : Nat × Nat} {h : am_H} {Q : Option Value → am_H → Prop} {a : Int} (e : am_swt md pc a = some tg) (ra : -2147483648 ≤ a ∧ a < 2147483648) (q : am_wp d md tg l rest kr h kr' Q) : am_wp d md pc l (.int (iN a) :: rest) kr h kr' Q := by
  refine wp_run (k := 1) ?_ q
  unfold am_swt at e
  unfold am_run
  dsimp only
  cases hT : am_T md pc with
  | none => rw [hT] at e; cases e
  | some x =>
    rw [hT] at e
    obtain ⟨ins, t, k⟩ := x
    dsimp only at e ⊢
    split at e
    · rename_i d lo hi o
      show (match am_sw l (.int (iN a) :: rest) kr h pc d lo hi o with | some C' => am_run 0 md C' | none => none) = _
      unfold am_sw
      dsimp only
      rw [iN_toInt ra]
      by_cases y : a < lo ∨ hi < a
      · rw [if_pos y] at e
        have y1 : (decide (a < lo) || decide (hi < a)) = true := by simpa using y
        rw [y1, cond_true]
        by_cases y2 : 0 ≤ (pc : Int) + d
        · rw [if_pos y2] at e
          rw [decide_eq_true y2, cond_true]
          cases e
          rfl
        · rw [if_neg y2] at e; cases e
      · rw [if_neg y] at e
        have y1 : (decide (a < lo) || decide (hi < a)) = false := by
          rw [decide_eq_false (fun z => y (Or.inl z)), decide_eq_false (fun z => y (Or.inr z))]; rfl
        rw [y1, cond_false]
        cases hO : o[(a - lo).toNat]? with
        | none => rw [hO] at e; cases e
        | some f =>
          rw [hO] at e
          dsimp only at e ⊢
          by_cases y2 : 0 ≤ (pc : Int) + f
          · rw [if_pos y2] at e
            rw [decide_eq_true y2, cond_true]
            cases e
            rfl
          · rw [if_neg y2] at e; cases e
    · cases e
theorem wp_swc {d : Nat} {md : am_MD} {pc tg : Nat} {l : am_LV} {rest : List Value} {kr kr' : Nat × Nat} {h : am_H} {Q : Option Value → am_H → Prop} {a b : Int} (hab : a = b) (e : am_swt md pc b = some tg) (ra : -2147483648 ≤ b ∧ b < 2147483648) (q : am_wp d md tg l rest kr h kr' Q) : am_wp d md pc l (.int (iN a) :: rest) kr h kr' Q := by
  subst hab
  exact wp_swt e ra q
theorem wp_swd {d : Nat} {md : am_MD} {pc tg : Nat} {l : am_LV} {rest : List Value} {kr kr' : Nat × Nat} {h : am_H} {Q : Option Value → am_H → Prop} {a lo hi : Int} (e : am_swd md pc = some (lo, hi, tg)) (ra : -2147483648 ≤ a ∧ a < 2147483648) (ha : a < lo ∨ hi < a) (q : am_wp d md tg l rest kr h kr' Q) : am_wp d md pc l (.int (iN a) :: rest) kr h kr' Q := by
  refine wp_swt ?_ ra q
  unfold am_swd at e
  unfold am_swt
  cases hT : am_T md pc with
  | none => rw [hT] at e; cases e
  | some x =>
    rw [hT] at e
    obtain ⟨ins, t, k⟩ := x
    dsimp only at e ⊢
    split at e
    · rename_i d lo' hi' o
      by_cases y2 : 0 ≤ (pc : Int) + d
      · rw [if_pos y2] at e
        cases e
        rw [if_pos ha, if_pos y2]
      · rw [if_neg y2] at e; cases e
    · cases e
/-- the first period from p on that has demand -/
def zNf (G : Int → Int → Int) : Nat → Int → Int
  | 0, p => p
  | k + 1, p => if G 0 p = 0 then zNf G k (p + 1) else p
def zNx (N : Int) (G : Int → Int → Int) (p : Int) : Int := zNf G (N - p).toNat p
theorem zNx_0 {N : Int} {G : Int → Int → Int} {p : Int} (q : N ≤ p) : zNx N G p = p := by
  unfold zNx
  rw [show (N - p).toNat = 0 by omega]
  rfl
theorem zNx_1 {N : Int} {G : Int → Int → Int} {p : Int} (q : ¬ G 0 p = 0) : zNx N G p = p := by
  by_cases y : N ≤ p
  · exact zNx_0 y
  · unfold zNx
    rw [show (N - p).toNat = (N - (p + 1)).toNat + 1 by omega]
    exact if_neg q
theorem zNx_2 {N : Int} {G : Int → Int → Int} {p : Int} (q : p < N) (q2 : G 0 p = 0) : zNx N G p = zNx N G (p + 1) := by
  unfold zNx
  rw [show (N - p).toNat = (N - (p + 1)).toNat + 1 by omega]
  exact if_pos q2
theorem zNf_rg (G : Int → Int → Int) : ∀ (k : Nat) (p : Int), p ≤ zNf G k p ∧ zNf G k p ≤ p + k := by
  intro k
  induction k with
  | zero => intro p; exact ⟨Int.le_refl _, by show p ≤ p + ((0 : Nat) : Int); omega⟩
  | succ k z_ih =>
    intro p
    have y := z_ih (p + 1)
    show p ≤ (if G 0 p = 0 then zNf G k (p + 1) else p) ∧ (if G 0 p = 0 then zNf G k (p + 1) else p) ≤ p + ((k + 1 : Nat) : Int)
    split <;> omega
theorem zNx_rg (N : Int) (G : Int → Int → Int) (p : Int) : p ≤ zNx N G p ∧ zNx N G p ≤ max p N := by
  have y := zNf_rg G (N - p).toNat p
  unfold zNx
  omega
theorem zNf_d {N : Int} {G : Int → Int → Int} : ∀ (k : Nat) (p : Int), p + k = N → zNf G k p < N → ¬ G 0 (zNf G k p) = 0 := by
  intro k
  induction k with
  | zero => intro p q1 q2; exact absurd q2 (by show ¬ p < N; omega)
  | succ k z_ih =>
    intro p q1 q2
    have e1 : zNf G (k + 1) p = if G 0 p = 0 then zNf G k (p + 1) else p := rfl
    by_cases y : G 0 p = 0
    · rw [e1, if_pos y] at q2 ⊢
      exact z_ih (p + 1) (by omega) q2
    · rw [e1, if_neg y]; exact y
theorem zNx_d {N : Int} {G : Int → Int → Int} {p : Int} (q : zNx N G p < N) : ¬ G 0 (zNx N G p) = 0 := by
  have y := zNx_rg N G p
  exact zNf_d (N - p).toNat p (by omega) q
/-- the rule r takes the period behind b into the lot that begins with a -/
abbrev zTk (G : Int → Int → Int) (r n a b : Int) : Prop := (r = 0 ∧ G 0 (b + 1) = 0) ∨ (r = 1 ∧ b + 1 - a < n) ∨ (r = 2 ∧ (G 1 a + zHe G a (b + 1)) * (b - a + 1) ≤ (G 1 a + zHe G a b) * (b - a + 2)) ∨ (r = 3 ∧ zHe G a (b + 1) ≤ G 1 a)
def zEf (G : Int → Int → Int) (r n a : Int) : Nat → Int → Int
  | 0, b => b
  | k + 1, b => if zTk G r n a b then zEf G r n a k (b + 1) else b
/-- where that lot ends, from b on -/
def zEd (N : Int) (G : Int → Int → Int) (r n a b : Int) : Int := zEf G r n a (N - 1 - b).toNat b
theorem zEd_1 {N : Int} {G : Int → Int → Int} {r n a b : Int} (q : b + 1 < N) (q2 : zTk G r n a b) : zEd N G r n a b = zEd N G r n a (b + 1) := by
  unfold zEd
  rw [show (N - 1 - b).toNat = (N - 1 - (b + 1)).toNat + 1 by omega]
  exact if_pos q2
theorem zEd_2 {N : Int} {G : Int → Int → Int} {r n a b : Int} (q2 : ¬ (b + 1 < N ∧ zTk G r n a b)) : zEd N G r n a b = b := by
  by_cases y : b + 1 < N
  · unfold zEd
    rw [show (N - 1 - b).toNat = (N - 1 - (b + 1)).toNat + 1 by omega]
    exact if_neg (fun z => q2 ⟨y, z⟩)
  · unfold zEd
    rw [show (N - 1 - b).toNat = 0 by omega]
    rfl
theorem zEf_rg (G : Int → Int → Int) (r n a : Int) : ∀ (k : Nat) (b : Int), b ≤ zEf G r n a k b ∧ zEf G r n a k b ≤ b + k := by
  intro k
  induction k with
  | zero => intro p; exact ⟨Int.le_refl _, by show p ≤ p + ((0 : Nat) : Int); omega⟩
  | succ k z_ih =>
    intro b
    have y := z_ih (b + 1)
    show b ≤ (if zTk G r n a b then zEf G r n a k (b + 1) else b) ∧ (if zTk G r n a b then zEf G r n a k (b + 1) else b) ≤ b + ((k + 1 : Nat) : Int)
    split <;> omega
theorem zEd_rg (N : Int) (G : Int → Int → Int) (r n a b : Int) (q : b < N) : b ≤ zEd N G r n a b ∧ zEd N G r n a b < N := by
  have y := zEf_rg G r n a (N - 1 - b).toNat b
  unfold zEd
  omega
theorem zEd_each {N : Int} {G : Int → Int → Int} {n a : Int} : ∀ (k : Nat) (b : Int), b + 1 + k = N → zNx N G (b + 1) - 1 = zEd N G 0 n a b := by
  intro k
  induction k with
  | zero => intro b q; rw [zNx_0 (by omega), zEd_2 (fun y => by omega)]; omega
  | succ k z_ih =>
    intro b q
    by_cases y : G 0 (b + 1) = 0
    · rw [zNx_2 (by omega) y, zEd_1 (by omega) (Or.inl ⟨rfl, y⟩)]
      exact z_ih (b + 1) (by omega)
    · rw [zNx_1 y, zEd_2 (fun z => by
        rcases z.2 with z1 | z1 | z1 | z1
        · exact y z1.2
        · omega
        · omega
        · omega)]
      omega
theorem zEd_every {N : Int} {G : Int → Int → Int} {n a : Int} : ∀ (k : Nat) (b : Int), b + 1 + k = N → a ≤ b → b + 1 - a ≤ n → min (a + n) N - 1 = zEd N G 1 n a b := by
  intro k
  induction k with
  | zero => intro b q q1 q2; rw [zEd_2 (fun y => by omega)]; omega
  | succ k z_ih =>
    intro b q q1 q2
    by_cases y : b + 1 - a < n
    · rw [zEd_1 (by omega) (Or.inr (Or.inl ⟨rfl, y⟩))]
      exact z_ih (b + 1) (by omega) (by omega) (by omega)
    · rw [zEd_2 (fun z => by
        rcases z.2 with z1 | z1 | z1 | z1
        · omega
        · exact y z1.2
        · omega
        · omega)]
      omega
/-- all lots by a rule from a on: cost, how many, where they begin -/
def zRr (N : Int) (G : Int → Int → Int) (r n : Int) : Nat → Int → Int → Int → Int32 → Int × Int × Int32
  | 0, _, c, l, be => (c, l, be)
  | k + 1, a, c, l, be => if a < N then zRr N G r n k (zNx N G (zEd N G r n a a + 1)) (c + zCo G a (zEd N G r n a a) a) (l + 1) (be ||| (iN 1 <<< (iN a &&& 31))) else (c, l, be)
theorem zRr_g (N : Int) (G : Int → Int → Int) (r n : Int) : ∀ (k j : Nat) (a c l : Int) (be : Int32), (N - a).toNat ≤ k → (N - a).toNat ≤ j → zRr N G r n k a c l be = zRr N G r n j a c l be := by
  have stop : ∀ (k : Nat) (a c l : Int) (be : Int32), ¬ a < N → zRr N G r n k a c l be = (c, l, be) := by
    intro k a c l be q
    cases k with
    | zero => rfl
    | succ k => exact if_neg q
  intro k
  induction k with
  | zero => intro j a c l be q1 q2; rw [stop 0 a c l be (by omega), stop j a c l be (by omega)]
  | succ k z_ih =>
    intro j a c l be q1 q2
    by_cases y : a < N
    · have y1 := zEd_rg N G r n a a y
      have y2 := zNx_rg N G (zEd N G r n a a + 1)
      cases j with
      | zero => omega
      | succ j =>
        show (if a < N then zRr N G r n k _ _ _ _ else _) = (if a < N then zRr N G r n j _ _ _ _ else _)
        rw [if_pos y, if_pos y]
        exact z_ih j _ _ _ _ (by omega) (by omega)
    · rw [stop _ a c l be y, stop j a c l be y]
/-- the lots of a rule -/
def zRu (N : Int) (G : Int → Int → Int) (r n : Int) : Int × Int × Int32 := zRr N G r n 16 (zNx N G 0) 0 0 0
theorem zRr_1 {N : Int} {G : Int → Int → Int} {r n a c l : Int} {be : Int32} (q_N : N ≤ 16) (q_a : 0 ≤ a) (q : a < N) : zRr N G r n 16 a c l be = zRr N G r n 16 (zNx N G (zEd N G r n a a + 1)) (c + zCo G a (zEd N G r n a a) a) (l + 1) (be ||| (iN 1 <<< (iN a &&& 31))) := by
  have y1 := zEd_rg N G r n a a q
  have y2 := zNx_rg N G (zEd N G r n a a + 1)
  rw [zRr_g N G r n 16 17 a c l be (by omega) (by omega)]
  exact if_pos q
theorem zRr_0 {N : Int} {G : Int → Int → Int} {r n a c l : Int} {be : Int32} (q : N ≤ a) : zRr N G r n 16 a c l be = (c, l, be) := if_neg (by omega)
theorem zCo_self (G : Int → Int → Int) (a b : Int) : zCo G a b a = G 1 a + G 2 a * zD G a b + zHe G a b := by
  unfold zCo
  rw [zOw_0, Int.add_zero]
