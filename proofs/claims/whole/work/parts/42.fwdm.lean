/-! FORWARD: the reference's, and that it is the class's -/
/-- least of the first k first periods of the last lot up to e - 1 -/
def zTs (G : Int → Int → Int) (T e : Int) (F : Int → Int) : Nat → Int
  | 0 => 1000000000
  | k + 1 => if zLc G T k (e - 1) (e - 1 + 1 - (k : Int)).toNat < 1000000000 ∧ F k < 1000000000 then min (zTs G T e F k) (F k + zLc G T k (e - 1) (e - 1 + 1 - (k : Int)).toNat) else zTs G T e F k
theorem zTs_s (G : Int → Int → Int) (T e : Int) (F : Int → Int) (a : Int) (q : 0 ≤ a) : zTs G T e F (a + 1).toNat = if zLc G T a (e - 1) (e - 1 + 1 - a).toNat < 1000000000 ∧ F a < 1000000000 then min (zTs G T e F a.toNat) (F a + zLc G T a (e - 1) (e - 1 + 1 - a).toNat) else zTs G T e F a.toNat := by
  rw [show (a + 1).toNat = a.toNat + 1 by omega]
  show (if zLc G T (a.toNat : Int) (e - 1) (e - 1 + 1 - (a.toNat : Int)).toNat < 1000000000 ∧ F (a.toNat : Int) < 1000000000 then min (zTs G T e F a.toNat) (F (a.toNat : Int) + zLc G T (a.toNat : Int) (e - 1) (e - 1 + 1 - (a.toNat : Int)).toNat) else zTs G T e F a.toNat) = _
  rw [show (a.toNat : Int) = a by omega]
theorem zTs_c {G : Int → Int → Int} {T e : Int} {F F' : Int → Int} : ∀ k : Nat, (∀ y : Int, 0 ≤ y → y < k → F y = F' y) → zTs G T e F k = zTs G T e F' k := by
  intro k
  induction k with
  | zero => intro _; rfl
  | succ k z_ih =>
    intro q
    show (if _ ∧ F k < 1000000000 then min (zTs G T e F k) (F k + _) else zTs G T e F k) = (if _ ∧ F' k < 1000000000 then min (zTs G T e F' k) (F' k + _) else zTs G T e F' k)
    rw [z_ih (fun y y1 y2 => q y y1 (by omega)), q k (by omega) (by omega)]
def zTt (G : Int → Int → Int) (T : Int) : Nat → Int → Int
  | 0 => fun _ => 0
  | r + 1 => fun x => if x = (r : Int) then (if x = 0 then 0 else zTs G T x (fun y => zTt G T r y) x.toNat) else zTt G T r x
/-- the least cost of lots that are all of the first x periods -/
def zTv (G : Int → Int → Int) (T x : Int) : Int := zTt G T (x.toNat + 1) x
theorem zTt_v (G : Int → Int → Int) (T x : Int) (q : 0 ≤ x) : ∀ j : Nat, zTt G T (x.toNat + 1 + j) x = zTv G T x := by
  intro j
  induction j with
  | zero => rfl
  | succ j z_ih =>
    show (if x = ((x.toNat + 1 + j : Nat) : Int) then _ else zTt G T (x.toNat + 1 + j) x) = _
    rw [if_neg (by omega)]
    exact z_ih
theorem zTv_0 (G : Int → Int → Int) (T : Int) : zTv G T 0 = 0 := by
  unfold zTv
  show (if (0 : Int) = ((0 : Nat) : Int) then (if (0 : Int) = 0 then (0 : Int) else zTs G T 0 (fun y => zTt G T 0 y) (0 : Int).toNat) else zTt G T 0 0) = 0
  exact (if_pos (show (0 : Int) = ((0 : Nat) : Int) from rfl)).trans (if_pos rfl)
theorem zTv_s (G : Int → Int → Int) (T x : Int) (q : 0 < x) : zTv G T x = zTs G T x (zTv G T) x.toNat := by
  show (if x = (x.toNat : Int) then (if x = 0 then 0 else zTs G T x (fun y => zTt G T x.toNat y) x.toNat) else _) = _
  rw [if_pos (by omega), if_neg (by omega)]
  refine zTs_c _ (fun y y1 y2 => ?_)
  have y3 := zTt_v G T y y1 (x.toNat - (y.toNat + 1))
  rw [show y.toNat + 1 + (x.toNat - (y.toNat + 1)) = x.toNat by omega] at y3
  exact y3
section FWM
variable {N : Int} {G : Int → Int → Int} {S T : Int}
theorem zD_pos_sub (q_g : zGk N G S T) {a b c d : Int} (q : 0 ≤ a ∧ a ≤ c ∧ c ≤ d + 1 ∧ d ≤ b ∧ b < N) : zD G c d ≤ zD G a b := by
  have y1 := zPi_rg q_g (a := a) (b := c) (by omega) (by omega) (by omega)
  have y2 := zPi_rg q_g (a := d + 1) (b := b + 1) (by omega) (by omega) (by omega)
  unfold zD
  omega
/-- no demand, no lot -/
theorem zLc_no {a b : Int} (q : ¬ 0 < zD G a b) : ∀ k : Nat, zLc G T a b k = 1000000000 := by
  intro k
  induction k with
  | zero => rfl
  | succ k z_ih =>
    show (if zIsL G T a b (a + k) ∧ zCo G a b (a + k) < zLc G T a b k then zCo G a b (a + k) else zLc G T a b k) = _
    rw [if_neg (fun y => q y.1.1)]
    exact z_ih
theorem zLc_dn (a b : Int) (k : Nat) : ∀ j : Nat, zLc G T a b (k + j) ≤ zLc G T a b k := by
  intro j
  induction j with
  | zero => exact Int.le_refl _
  | succ j z_ih =>
    show (if zIsL G T a b (a + ((k + j : Nat) : Int)) ∧ zCo G a b (a + ((k + j : Nat) : Int)) < zLc G T a b (k + j) then zCo G a b (a + ((k + j : Nat) : Int)) else zLc G T a b (k + j)) ≤ _
    split
    · rename_i y; have := y.2; omega
    · exact z_ih
/-- periods without demand behind a lot -/
theorem zLc_ext {a b c : Int} (q_a : 0 ≤ a) (q_b : a ≤ b) (q_c : b ≤ c) (q : zD G (b + 1) c = 0) (q_z : ∀ p : Int, b < p → p ≤ c → zD G (p + 1) c = 0 ∧ zD G a b = zD G a c) : ∀ k : Nat, (k : Int) ≤ b + 1 - a → zLc G T a c k = zLc G T a b k := by
  have y_d : zD G a c = zD G a b := by unfold zD at *; omega
  have y_co : ∀ m : Int, a ≤ m → m ≤ b → zCo G a c m = zCo G a b m := by
    intro m q1 q2
    unfold zCo
    rw [y_d]
    have y_h : ∀ j : Nat, m + j ≤ b → zHs G m c j = zHs G m b j := by
      intro j
      induction j with
      | zero => intro _; rfl
      | succ j z_ih =>
        intro q3
        show zHs G m c j + G 3 (m + j) * zD G (m + j + 1) c = zHs G m b j + G 3 (m + j) * zD G (m + j + 1) b
        rw [z_ih (by omega), show zD G (m + j + 1) c = zD G (m + j + 1) b by unfold zD at *; omega]
    have y_h2 : ∀ j : Nat, b + j ≤ c → zHs G m c ((b - m).toNat + j) = zHs G m c (b - m).toNat := by
      intro j
      induction j with
      | zero => intro _; rfl
      | succ j z_ih =>
        intro q3
        show zHs G m c ((b - m).toNat + j) + G 3 (m + (((b - m).toNat + j : Nat) : Int)) * zD G (m + (((b - m).toNat + j : Nat) : Int) + 1) c = _
        rw [z_ih (by omega), show m + (((b - m).toNat + j : Nat) : Int) + 1 = b + j + 1 by omega]
        have y5 : zD G (b + j + 1) c = 0 := by
          by_cases y6 : j = 0
          · subst y6; rw [show b + ((0 : Nat) : Int) + 1 = b + 1 by omega]; exact q
          · exact (q_z (b + j) (by omega) (by omega)).1
        rw [y5, Int.mul_zero, Int.add_zero]
    have y_e : zHe G m c = zHe G m b := by
      unfold zHe
      have y7 := y_h2 (c - b).toNat (by omega)
      rw [show (b - m).toNat + (c - b).toNat = (c - m).toNat by omega] at y7
      rw [y7]
      exact y_h _ (by omega)
    rw [y_e]
  intro k
  induction k with
  | zero => intro _; rfl
  | succ k z_ih =>
    intro q1
    have y1 := z_ih (by omega)
    have y2 := y_co (a + k) (by omega) (by omega)
    show (if zIsL G T a c (a + k) ∧ zCo G a c (a + k) < zLc G T a c k then zCo G a c (a + k) else zLc G T a c k) = (if zIsL G T a b (a + k) ∧ zCo G a b (a + k) < zLc G T a b k then zCo G a b (a + k) else zLc G T a b k)
    unfold zIsL
    rw [y1, y2, y_d]
theorem zLc_le_ext (q_g : zGk N G S T) {a b c : Int} (q_0 : 0 ≤ a ∧ a ≤ b ∧ b ≤ c ∧ c < N) (q : zD G (b + 1) c = 0) : zLc G T a c (c + 1 - a).toNat ≤ zLc G T a b (b + 1 - a).toNat := by
  have y1 := zLc_ext (G := G) (T := T) (a := a) (b := b) (c := c) (by omega) (by omega) (by omega) q (fun p q1 q2 => by
    have y2 := zPi_rg q_g (a := b + 1) (b := p + 1) (by omega) (by omega) (by omega)
    have y3 := zPi_rg q_g (a := p + 1) (b := c + 1) (by omega) (by omega) (by omega)
    unfold zD at *
    omega) (b + 1 - a).toNat (by omega)
  have y4 := zLc_dn (G := G) (T := T) a c (b + 1 - a).toNat (c - b).toNat
  rw [show (b + 1 - a).toNat + (c - b).toNat = (c + 1 - a).toNat by omega] at y4
  omega
theorem zTs_rg (q_g : zGk N G S T) {e : Int} {F : Int → Int} (q_e : e ≤ N) (q_F : ∀ y : Int, 0 ≤ y → y < e → 0 ≤ F y) : ∀ k : Nat, (k : Int) ≤ e → 0 ≤ zTs G T e F k ∧ zTs G T e F k ≤ 1000000000 ∧ ∀ a : Int, 0 ≤ a → a < k → zLc G T a (e - 1) (e - 1 + 1 - a).toNat < 1000000000 → F a < 1000000000 → zTs G T e F k ≤ F a + zLc G T a (e - 1) (e - 1 + 1 - a).toNat := by
  intro k
  induction k with
  | zero => intro _; exact ⟨by show (0 : Int) ≤ 1000000000; decide, by show (1000000000 : Int) ≤ 1000000000; decide, fun a y1 y2 => by omega⟩
  | succ k z_ih =>
    intro q
    have y1 := z_ih (by omega)
    have y2 := q_F k (by omega) (by omega)
    have y3 := zLc_rg (T := T) q_g (a := k) (b := e - 1) (by omega) (by omega) (e - 1 + 1 - (k : Int)).toNat (by omega)
    have e1 : zTs G T e F (k + 1) = if zLc G T k (e - 1) (e - 1 + 1 - (k : Int)).toNat < 1000000000 ∧ F k < 1000000000 then min (zTs G T e F k) (F k + zLc G T k (e - 1) (e - 1 + 1 - (k : Int)).toNat) else zTs G T e F k := rfl
    rw [e1]
    by_cases y4 : zLc G T k (e - 1) (e - 1 + 1 - (k : Int)).toNat < 1000000000 ∧ F k < 1000000000
    · rw [if_pos y4]
      refine ⟨by omega, by omega, fun a q1 q2 q3 q4 => ?_⟩
      by_cases y5 : a = k
      · subst y5; omega
      · have y6 := y1.2.2 a q1 (by omega) q3 q4; omega
    · rw [if_neg y4]
      refine ⟨y1.1, y1.2.1, fun a q1 q2 q3 q4 => ?_⟩
      by_cases y5 : a = k
      · subst y5; exact absurd ⟨q3, q4⟩ y4
      · exact y1.2.2 a q1 (by omega) q3 q4
theorem zTv_rg (q_g : zGk N G S T) : ∀ r : Nat, (r : Int) ≤ N + 1 → ∀ x : Int, 0 ≤ x → x < r → 0 ≤ zTv G T x ∧ zTv G T x ≤ 1000000000 := by
  intro r
  induction r with
  | zero => intro _ x y1 y2; omega
  | succ r z_ih =>
    intro q x y1 y2
    have y3 := z_ih (by omega)
    by_cases y4 : x < r
    · exact y3 x y1 y4
    · by_cases y5 : x = 0
      · subst y5; rw [zTv_0]; omega
      · rw [zTv_s G T x (by omega)]
        have y6 := zTs_rg q_g (T := T) (e := x) (F := zTv G T) (by omega) (fun y q1 q2 => (y3 y q1 (by omega)).1) x.toNat (by omega)
        exact ⟨y6.1, y6.2.1⟩
theorem zTv_r (q_g : zGk N G S T) {x : Int} (q_0 : 0 ≤ x) (q_x : x ≤ N) : 0 ≤ zTv G T x ∧ zTv G T x ≤ 1000000000 := by
  have y := q_g.1
  exact zTv_rg q_g (N + 1).toNat (by omega) x q_0 (by omega)
theorem zTv_le (q_g : zGk N G S T) {e a : Int} (q_e : e ≤ N) (q_a : 0 ≤ a ∧ a < e) (q1 : zLc G T a (e - 1) (e - 1 + 1 - a).toNat < 1000000000) (q2 : zTv G T a < 1000000000) : zTv G T e ≤ zTv G T a + zLc G T a (e - 1) (e - 1 + 1 - a).toNat := by
  rw [zTv_s G T e (by omega)]
  exact (zTs_rg q_g (e := e) (F := zTv G T) q_e (fun y y1 y2 => (zTv_r q_g y1 (by omega)).1) e.toNat (by omega)).2.2 a q_a.1 (by omega) q1 q2
/-- what the least is got by -/
theorem zTs_at {e : Int} {F : Int → Int} : ∀ k : Nat, zTs G T e F k = 1000000000 ∨ ∃ a : Int, 0 ≤ a ∧ a < k ∧ zLc G T a (e - 1) (e - 1 + 1 - a).toNat < 1000000000 ∧ F a < 1000000000 ∧ zTs G T e F k = F a + zLc G T a (e - 1) (e - 1 + 1 - a).toNat := by
  intro k
  induction k with
  | zero => exact Or.inl rfl
  | succ k z_ih =>
    have e1 : zTs G T e F (k + 1) = if zLc G T k (e - 1) (e - 1 + 1 - (k : Int)).toNat < 1000000000 ∧ F k < 1000000000 then min (zTs G T e F k) (F k + zLc G T k (e - 1) (e - 1 + 1 - (k : Int)).toNat) else zTs G T e F k := rfl
    rw [e1]
    by_cases y4 : zLc G T k (e - 1) (e - 1 + 1 - (k : Int)).toNat < 1000000000 ∧ F k < 1000000000
    · rw [if_pos y4]
      by_cases y5 : F k + zLc G T k (e - 1) (e - 1 + 1 - (k : Int)).toNat < zTs G T e F k
      · exact Or.inr ⟨k, by omega, by omega, y4.1, y4.2, by omega⟩
      · rw [show min (zTs G T e F k) (F k + zLc G T k (e - 1) (e - 1 + 1 - (k : Int)).toNat) = zTs G T e F k by omega]
        rcases z_ih with y6 | ⟨a, y6, y7, y8, y9, y10⟩
        · exact Or.inl y6
        · exact Or.inr ⟨a, y6, by omega, y8, y9, y10⟩
    · rw [if_neg y4]
      rcases z_ih with y6 | ⟨a, y6, y7, y8, y9, y10⟩
      · exact Or.inl y6
      · exact Or.inr ⟨a, y6, by omega, y8, y9, y10⟩
/-- no demand up to e: no lots -/
theorem zTv_no {e : Int} (q_g : zGk N G S T) (q_e : 0 < e ∧ e ≤ N) (q : zD G 0 (e - 1) = 0) : zTv G T e = 1000000000 := by
  rw [zTv_s G T e (by omega)]
  rcases zTs_at (G := G) (T := T) (e := e) (F := zTv G T) e.toNat with y | ⟨a, y1, y2, y3, _, _⟩
  · exact y
  · have y4 := zD_pos_sub q_g (a := 0) (b := e - 1) (c := a) (d := e - 1) (by omega)
    rw [zLc_no (by omega)] at y3
    exact absurd y3 (by decide)
/-- the class's least of the first t periods is that of lots of all of them -/
theorem zWd_tv (q_g : zGk N G S T) : ∀ r : Nat, (r : Int) ≤ N + 1 → ∀ x : Int, 0 ≤ x → x < r → (0 < zD G 0 (x - 1) → (zWd G T x).1 = zTv G T x ∧ zTv G T x < 1000000000) ∧ (zD G 0 (x - 1) = 0 → (zWd G T x) = (0, -1)) := by
  intro r
  induction r with
  | zero => intro _ x y1 y2; omega
  | succ r z_ih =>
    intro q x y1 y2
    have y3 := z_ih (by omega)
    by_cases y4 : x < r
    · exact y3 x y1 y4
    · refine ⟨fun y5 => ?_, fun y5 => by rw [zWd_s G T x y1]; unfold zFp; rw [if_neg (by omega)]⟩
      have y6 : 0 < x := by
        by_cases y7 : 0 < x
        · exact y7
        · rw [show x = 0 by omega] at y5; exact absurd y5 (by unfold zD; rw [show (0 : Int) - 1 + 1 = 0 by omega]; omega)
      have y_w := (zWd_r q_g (T := T) (x := x) y1 (by omega)).2.1
      have key : ∀ k : Nat, (k : Int) ≤ x → (zFs G T x (fun y => (zWd G T y).1) k).1 = zTs G T x (zTv G T) k := by
        intro k
        induction k with
        | zero => intro _; rfl
        | succ k z_jh =>
          intro q8
          have y9 := z_jh (by omega)
          have y10 := zLc_rg (T := T) q_g (a := k) (b := x - 1) (by omega) (by omega) (x - 1 + 1 - (k : Int)).toNat (by omega)
          have e1 : zFs G T x (fun y => (zWd G T y).1) (k + 1) = zFt G (zFs G T x (fun y => (zWd G T y).1) k) k (zLc G T k (x - 1) (x - 1 + 1 - (k : Int)).toNat) ((zWd G T k).1) := rfl
          have e2 : zTs G T x (zTv G T) (k + 1) = if zLc G T k (x - 1) (x - 1 + 1 - (k : Int)).toNat < 1000000000 ∧ zTv G T k < 1000000000 then min (zTs G T x (zTv G T) k) (zTv G T k + zLc G T k (x - 1) (x - 1 + 1 - (k : Int)).toNat) else zTs G T x (zTv G T) k := rfl
          rw [e1]
          unfold zFt
          have y_d := zD_rg q_g (a := 0) (b := (k : Int) - 1) (by omega) (by omega) (by omega)
          have y_fin : ∀ v : Int, v = zTv G T k → zTv G T k < 1000000000 → zLc G T k (x - 1) (x - 1 + 1 - (k : Int)).toNat < 1000000000 → (if v + zLc G T k (x - 1) (x - 1 + 1 - (k : Int)).toNat ≤ (zFs G T x (fun y => (zWd G T y).1) k).1 then (v + zLc G T k (x - 1) (x - 1 + 1 - (k : Int)).toNat, (k : Int)) else zFs G T x (fun y => (zWd G T y).1) k).1 = zTs G T x (zTv G T) (k + 1) := by
            intro v z1 z2 z3
            rw [e2.trans (if_pos ⟨z3, z2⟩)]
            by_cases z4 : v + zLc G T k (x - 1) (x - 1 + 1 - (k : Int)).toNat ≤ (zFs G T x (fun y => (zWd G T y).1) k).1
            · rw [if_pos z4]
              show v + zLc G T k (x - 1) (x - 1 + 1 - (k : Int)).toNat = _
              omega
            · rw [if_neg z4]
              omega
          by_cases y17 : 1000000000 ≤ zLc G T k (x - 1) (x - 1 + 1 - (k : Int)).toNat
          · rw [if_pos (Or.inl y17), e2.trans (if_neg (fun y => by have := y.1; omega))]; exact y9
          · by_cases y11 : k = 0
            · have y12 : zTv G T (k : Int) = 0 := by subst y11; exact zTv_0 G T
              have y13 : (zWd G T (k : Int)).1 = 0 := by
                subst y11
                show (zWd G T 0).1 = 0
                rw [zWd_s G T 0 (by omega)]
                unfold zFp
                rw [if_neg (by unfold zD; rw [show (0 : Int) - 1 + 1 = 0 by omega]; omega)]
              rw [if_neg (fun z5 => z5.elim (fun z6 => y17 z6) (fun z6 => by have := z6.1; omega))]
              exact y_fin _ (by omega) (by omega) (by omega)
            · by_cases y14 : zD G 0 ((k : Int) - 1) = 0
              · have y15 := zTv_no q_g (T := T) (e := k) (by omega) y14
                rw [if_pos (Or.inr ⟨by omega, y14⟩), e2.trans (if_neg (fun y => by have := y.2; omega))]
                exact y9
              · have y16 := (y3 k (by omega) (by omega)).1 (by omega)
                rw [if_neg (fun z5 => z5.elim (fun z6 => y17 z6) (fun z6 => y14 z6.2))]
                exact y_fin _ y16.1 y16.2 (by omega)
      have y18 := key x.toNat (by omega)
      have e3 : (zWd G T x).1 = zTv G T x := by
        rw [zWd_s G T x y1, zTv_s G T x y6]
        unfold zFp
        rw [if_pos y5]
        exact y18
      exact ⟨e3, by omega⟩
theorem zWd_t (q_g : zGk N G S T) {x : Int} (q_0 : 0 ≤ x) (q_x : x ≤ N) : (0 < zD G 0 (x - 1) → (zWd G T x).1 = zTv G T x ∧ zTv G T x < 1000000000) ∧ (zD G 0 (x - 1) = 0 → (zWd G T x) = (0, -1)) := by
  have y := q_g.1
  exact zWd_tv q_g (N + 1).toNat (by omega) x q_0 (by omega)
/-- periods without demand behind lots -/
theorem zTv_ext (q_g : zGk N G S T) {e u : Int} (q : 0 < e ∧ e ≤ u ∧ u ≤ N) (q_d : zD G e (u - 1) = 0) : zTv G T u ≤ zTv G T e := by
  have y0 := zTv_r q_g (T := T) (x := u) (by omega) (by omega)
  have e1 := zTv_s G T e (by omega)
  rcases zTs_at (G := G) (T := T) (e := e) (F := zTv G T) e.toNat with y | ⟨a, y1, y2, y3, y4, y5⟩
  · omega
  · have y6 := zLc_le_ext q_g (T := T) (a := a) (b := e - 1) (c := u - 1) (by omega) (by rw [show e - 1 + 1 = e by omega]; exact q_d)
    have y7 := zTv_le q_g (T := T) (e := u) (a := a) (by omega) (by omega) (by omega) y4
    omega
/-- the last lot may begin with a -/
abbrev zPa (G : Int → Int → Int) (T v e a : Int) : Prop := zLc G T a (e - 1) (e - 1 + 1 - a).toNat < 1000000000 ∧ zTv G T a < 1000000000 ∧ zTv G T a + zLc G T a (e - 1) (e - 1 + 1 - a).toNat = v
theorem zPa_ext (q_g : zGk N G S T) {e u a : Int} (q : 0 ≤ a ∧ a < e ∧ e ≤ u ∧ u ≤ N) (q_d : zD G e (u - 1) = 0) (q_p : zPa G T (zTv G T u) e a) : zPa G T (zTv G T u) u a := by
  have y6 := zLc_le_ext q_g (T := T) (a := a) (b := e - 1) (c := u - 1) (by omega) (by rw [show e - 1 + 1 = e by omega]; exact q_d)
  have y7 := zTv_le q_g (T := T) (e := u) (a := a) (by omega) (by omega) (by have := q_p.1; omega) q_p.2.1
  have y8 := q_p.2.2
  have y9 := q_p.1
  refine ⟨by omega, q_p.2.1, by omega⟩
theorem zWd_last (q_g : zGk N G S T) {x : Int} (q_x : 0 ≤ x ∧ x ≤ N) (q_d : 0 < zD G 0 (x - 1)) : (0 ≤ (zWd G T x).2 ∧ (zWd G T x).2 < x ∧ zPa G T (zTv G T x) x (zWd G T x).2) ∧ ∀ a : Int, 0 ≤ a → a < x → zPa G T (zTv G T x) x a → a ≤ (zWd G T x).2 := by
  have y_r := zWd_r q_g (T := T) (x := x) (by omega) (by omega)
  have y_v := (zWd_t q_g (T := T) (x := x) (by omega) (by omega)).1 q_d
  have y_e : zWd G T x = zFs G T x (fun y => (zWd G T y).1) x.toNat := by
    rw [zWd_s G T x (by omega)]; unfold zFp; rw [if_pos q_d]
  have key : ∀ k : Nat, (k : Int) ≤ x → ((zFs G T x (fun y => (zWd G T y).1) k).1 < 1000000000 → 0 ≤ (zFs G T x (fun y => (zWd G T y).1) k).2 ∧ (zFs G T x (fun y => (zWd G T y).1) k).2 < k ∧ zPa G T (zFs G T x (fun y => (zWd G T y).1) k).1 x (zFs G T x (fun y => (zWd G T y).1) k).2) ∧ (∀ a : Int, 0 ≤ a → a < k → zPa G T (zFs G T x (fun y => (zWd G T y).1) k).1 x a → a ≤ (zFs G T x (fun y => (zWd G T y).1) k).2) ∧ (∀ a : Int, 0 ≤ a → a < k → zLc G T a (x - 1) (x - 1 + 1 - a).toNat < 1000000000 → zTv G T a < 1000000000 → (zFs G T x (fun y => (zWd G T y).1) k).1 ≤ zTv G T a + zLc G T a (x - 1) (x - 1 + 1 - a).toNat) ∧ (zFs G T x (fun y => (zWd G T y).1) k).1 ≤ 1000000000 := by
    intro k
    induction k with
    | zero => intro _; exact ⟨fun y => absurd y (by show ¬ (1000000000 : Int) < 1000000000; decide), fun a y1 y2 => by omega, fun a y1 y2 => by omega, by show (1000000000 : Int) ≤ 1000000000; decide⟩
    | succ k z_jh =>
      intro q8
      obtain ⟨y1, y2, y3, y4⟩ := z_jh (by omega)
      have y10 := zLc_rg (T := T) q_g (a := k) (b := x - 1) (by omega) (by omega) (x - 1 + 1 - (k : Int)).toNat (by omega)
      have e1 : zFs G T x (fun y => (zWd G T y).1) (k + 1) = zFt G (zFs G T x (fun y => (zWd G T y).1) k) k (zLc G T k (x - 1) (x - 1 + 1 - (k : Int)).toNat) ((zWd G T k).1) := rfl
      have y_d := zD_rg q_g (a := 0) (b := (k : Int) - 1) (by omega) (by omega) (by omega)
      -- the condition, the value
      have y11 : (1000000000 ≤ zLc G T k (x - 1) (x - 1 + 1 - (k : Int)).toNat ∨ (0 < (k : Int) ∧ zD G 0 ((k : Int) - 1) = 0)) ∨ (zLc G T k (x - 1) (x - 1 + 1 - (k : Int)).toNat < 1000000000 ∧ ¬ (0 < (k : Int) ∧ zD G 0 ((k : Int) - 1) = 0) ∧ (zWd G T k).1 = zTv G T k ∧ zTv G T k < 1000000000) := by
        by_cases z1 : 1000000000 ≤ zLc G T k (x - 1) (x - 1 + 1 - (k : Int)).toNat
        · exact Or.inl (Or.inl z1)
        · by_cases z2 : 0 < (k : Int) ∧ zD G 0 ((k : Int) - 1) = 0
          · exact Or.inl (Or.inr z2)
          · refine Or.inr ⟨by omega, z2, ?_⟩
            by_cases z3 : k = 0
            · subst z3
              have y12 : zTv G T ((0 : Nat) : Int) = 0 := zTv_0 G T
              have y13 : (zWd G T ((0 : Nat) : Int)).1 = 0 := by
                rw [(zWd_t q_g (T := T) (x := ((0 : Nat) : Int)) (by omega) (by omega)).2 (by unfold zD; rw [show ((0 : Nat) : Int) - 1 + 1 = 0 by omega]; omega)]
              omega
            · exact (zWd_t q_g (T := T) (x := k) (by omega) (by omega)).1 (by omega)
      rw [e1]
      unfold zFt
      rcases y11 with z1 | ⟨z1, z2, z3, z4⟩
      · rw [if_pos z1]
        have z5 : ¬ (zLc G T k (x - 1) (x - 1 + 1 - (k : Int)).toNat < 1000000000 ∧ zTv G T k < 1000000000) := by
          rintro ⟨z6, z7⟩
          rcases z1 with z8 | ⟨z8, z9⟩
          · omega
          · have := zTv_no q_g (T := T) (e := k) (by omega) z9; omega
        refine ⟨fun z6 => ⟨(y1 z6).1, by have := (y1 z6).2.1; omega, (y1 z6).2.2⟩, fun a z6 z7 z8 => ?_, fun a z6 z7 z8 z9 => ?_, y4⟩
        · by_cases z9 : a = k
          · subst z9; exact absurd ⟨z8.1, z8.2.1⟩ z5
          · exact y2 a z6 (by omega) z8
        · by_cases z10 : a = k
          · subst z10; exact absurd ⟨z8, z9⟩ z5
          · exact y3 a z6 (by omega) z8 z9
      · rw [if_neg (fun z5 => z5.elim (fun z6 => by omega) (fun z6 => z2 z6)), z3]
        by_cases z5 : zTv G T k + zLc G T k (x - 1) (x - 1 + 1 - (k : Int)).toNat ≤ (zFs G T x (fun y => (zWd G T y).1) k).1
        · rw [if_pos z5]
          refine ⟨fun _ => ⟨by dsimp only; omega, by dsimp only; omega, ⟨z1, z4, rfl⟩⟩, fun a z6 z7 _ => by dsimp only; omega, fun a z6 z7 z8 z9 => ?_, by dsimp only; omega⟩
          by_cases z10 : a = k
          · subst z10; exact Int.le_refl _
          · have z11 := y3 a z6 (by omega) z8 z9
            dsimp only
            omega
        · rw [if_neg z5]
          refine ⟨fun z6 => ⟨(y1 z6).1, by have := (y1 z6).2.1; omega, (y1 z6).2.2⟩, fun a z6 z7 z8 => ?_, fun a z6 z7 z8 z9 => ?_, y4⟩
          · by_cases z9 : a = k
            · subst z9; have := z8.2.2; omega
            · exact y2 a z6 (by omega) z8
          · by_cases z10 : a = k
            · subst z10; omega
            · exact y3 a z6 (by omega) z8 z9
  have y20 := key x.toNat (by omega)
  rw [← y_e, y_v.1] at y20
  refine ⟨?_, fun a z1 z2 z3 => y20.2.1 a z1 (by omega) z3⟩
  have z4 := y20.1 (by omega)
  exact ⟨z4.1, by have := z4.2.1; omega, z4.2.2⟩
end FWM
