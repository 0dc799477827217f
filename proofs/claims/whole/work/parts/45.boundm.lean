/-! BOUNDED: what is reckoned -/
/-- behind p, if c pieces are made up to it and all behind costs v -/
def zBa (G : Int → Int → Int) (S T p c v : Int) : Int := if ((c - zD G 0 p ≤ S ∧ (0 ≤ c - zD G 0 p ∨ T = 1)) ∧ v < 1000000000) then v + zSc G p (c - zD G 0 p) else 1000000000
/-- what x pieces cost in p, if A is what comes behind -/
def zBy (G : Int → Int → Int) (p : Int) (A : Int → Int) (c x : Int) : Int := A (c + x) + (if 0 < x then G 1 p + G 2 p * x else 0)
/-- the least of the first k numbers of pieces, and how many -/
def zBx (G : Int → Int → Int) (p : Int) (A : Int → Int) (c j : Int) : Nat → Int × Int
  | 0 => (1000000000, j)
  | k + 1 => if A (c + k) < 1000000000 ∧ zBy G p A c k < (zBx G p A c j k).1 then (zBy G p A c k, k) else zBx G p A c j k
theorem zBx_s (G : Int → Int → Int) (p : Int) (A : Int → Int) (c j x : Int) (q : 0 ≤ x) : zBx G p A c j (x + 1).toNat = if A (c + x) < 1000000000 ∧ zBy G p A c x < (zBx G p A c j x.toNat).1 then (zBy G p A c x, x) else zBx G p A c j x.toNat := by
  rw [show (x + 1).toNat = x.toNat + 1 by omega]
  show (if A (c + (x.toNat : Int)) < 1000000000 ∧ zBy G p A c (x.toNat : Int) < (zBx G p A c j x.toNat).1 then (zBy G p A c (x.toNat : Int), (x.toNat : Int)) else zBx G p A c j x.toNat) = _
  rw [show (x.toNat : Int) = x by omega]
theorem zBx_c {G : Int → Int → Int} {p : Int} {A A' : Int → Int} {c j : Int} : ∀ k : Nat, (∀ x : Int, 0 ≤ x → x < k → A (c + x) = A' (c + x)) → zBx G p A c j k = zBx G p A' c j k := by
  intro k
  induction k with
  | zero => intro _; rfl
  | succ k z_ih =>
    intro q
    show (if A (c + k) < 1000000000 ∧ A (c + k) + _ < (zBx G p A c j k).1 then (A (c + k) + _, (k : Int)) else zBx G p A c j k) = (if A' (c + k) < 1000000000 ∧ A' (c + k) + _ < (zBx G p A' c j k).1 then (A' (c + k) + _, (k : Int)) else zBx G p A' c j k)
    rw [z_ih (fun x y1 y2 => q x y1 (by omega)), q k (by omega) (by omega)]
theorem zBx_le {G : Int → Int → Int} {p : Int} {A : Int → Int} {c j : Int} : ∀ k : Nat, (zBx G p A c j k).1 ≤ 1000000000 ∧ (∀ x : Int, 0 ≤ x → x < k → A (c + x) < 1000000000 → (zBx G p A c j k).1 ≤ zBy G p A c x) ∧ ((zBx G p A c j k).1 = 1000000000 ∨ (0 ≤ (zBx G p A c j k).2 ∧ (zBx G p A c j k).2 < k ∧ A (c + (zBx G p A c j k).2) < 1000000000 ∧ zBy G p A c (zBx G p A c j k).2 = (zBx G p A c j k).1 ∧ ∀ x : Int, 0 ≤ x → x < (zBx G p A c j k).2 → A (c + x) < 1000000000 → (zBx G p A c j k).1 < zBy G p A c x)) ∧ (∀ j' : Int, (zBx G p A c j' k).1 = (zBx G p A c j k).1 ∧ ((zBx G p A c j k).1 < 1000000000 → (zBx G p A c j' k).2 = (zBx G p A c j k).2)) := by
  intro k
  induction k with
  | zero => exact ⟨Int.le_refl _, fun x y1 y2 => by omega, Or.inl rfl, fun j' => ⟨rfl, fun y => absurd y (by show ¬ (1000000000 : Int) < 1000000000; decide)⟩⟩
  | succ k z_ih =>
    obtain ⟨y1, y2, y3, y4⟩ := z_ih
    have e1 : ∀ j, zBx G p A c j (k + 1) = if A (c + k) < 1000000000 ∧ zBy G p A c k < (zBx G p A c j k).1 then (zBy G p A c k, (k : Int)) else zBx G p A c j k := fun _ => rfl
    by_cases y5 : A (c + k) < 1000000000 ∧ zBy G p A c k < (zBx G p A c j k).1
    · rw [(e1 j).trans (if_pos y5)]
      refine ⟨by dsimp only; omega, fun x z1 z2 z3 => ?_, Or.inr ⟨by dsimp only; omega, by dsimp only; omega, y5.1, rfl, fun x z1 z2 z3 => ?_⟩, fun j' => ?_⟩
      · by_cases z4 : x = k
        · subst z4; exact Int.le_refl _
        · have := y2 x z1 (by omega) z3; dsimp only; omega
      · have := y2 x z1 z2 z3; dsimp only at z2 ⊢; omega
      · have y6 := (y4 j').1
        rw [(e1 j').trans (if_pos (by rw [y6]; exact y5))]
        exact ⟨rfl, fun _ => rfl⟩
    · rw [(e1 j).trans (if_neg y5)]
      refine ⟨y1, fun x z1 z2 z3 => ?_, ?_, fun j' => ?_⟩
      · by_cases z4 : x = k
        · subst z4
          by_cases z5 : zBy G p A c k < (zBx G p A c j k).1
          · exact absurd ⟨z3, z5⟩ y5
          · omega
        · exact y2 x z1 (by omega) z3
      · rcases y3 with y3 | y3
        · exact Or.inl y3
        · exact Or.inr ⟨y3.1, by omega, y3.2.2⟩
      · have y6 := (y4 j').1
        rw [(e1 j').trans (if_neg (by rw [y6]; exact y5))]
        exact y4 j'
/-- how many numbers of pieces there are -/
def zBn (G : Int → Int → Int) (R p c : Int) : Nat := (min (R - c) (G 5 p) + 1).toNat
def zVt (N : Int) (G : Int → Int → Int) (S T R : Int) : Nat → Int → Int
  | 0 => fun c => if c = R then 0 else 1000000000
  | r + 1 => fun c => (zBx G (N - ((r + 1 : Nat) : Int)) (fun y => zBa G S T (N - ((r + 1 : Nat) : Int)) y (zVt N G S T R r y)) c 0 (zBn G R (N - ((r + 1 : Nat) : Int)) c)).1
/-- the least cost from p on, if c pieces are made ahead of it -/
def zVb (N : Int) (G : Int → Int → Int) (S T R p c : Int) : Int := zVt N G S T R (N - p).toNat c
abbrev zAb (N : Int) (G : Int → Int → Int) (S T R p : Int) : Int → Int := fun y => zBa G S T p y (zVb N G S T R (p + 1) y)
/-- how many are made in p -/
def zPk (N : Int) (G : Int → Int → Int) (S T R p c : Int) : Int := (zBx G p (zAb N G S T R p) c 0 (zBn G R p c)).2
theorem zVb_n (N : Int) (G : Int → Int → Int) (S T R c : Int) : zVb N G S T R N c = if c = R then 0 else 1000000000 := by
  unfold zVb
  rw [show (N - N).toNat = 0 by omega]
  rfl
theorem zVb_s (N : Int) (G : Int → Int → Int) (S T R p c : Int) (q : p < N) : zVb N G S T R p c = (zBx G p (zAb N G S T R p) c 0 (zBn G R p c)).1 := by
  show zVt N G S T R (N - p).toNat c = _
  rw [show (N - p).toNat = (N - (p + 1)).toNat + 1 by omega]
  show (zBx G (N - (((N - (p + 1)).toNat + 1 : Nat) : Int)) (fun y => zBa G S T (N - (((N - (p + 1)).toNat + 1 : Nat) : Int)) y (zVt N G S T R (N - (p + 1)).toNat y)) c 0 (zBn G R (N - (((N - (p + 1)).toNat + 1 : Nat) : Int)) c)).1 = _
  rw [show N - (((N - (p + 1)).toNat + 1 : Nat) : Int) = p by omega]
  rfl
section BM
variable {N : Int} {G : Int → Int → Int} {S T : Int}
theorem zSc_rg (q_g : zGk N G S T) {p s : Int} (q_p : 0 ≤ p ∧ p < N) (q_s : -2000 ≤ s ∧ s ≤ 2000) : 0 ≤ zSc G p s ∧ zSc G p s ≤ 198000 := by
  have y1 := q_g.2.1 3 p (by omega) (by omega) (by omega) (by omega)
  have y2 := q_g.2.1 4 p (by omega) (by omega) (by omega) (by omega)
  rw [show vmax 3 = 99 from rfl] at y1
  rw [show vmax 4 = 99 from rfl] at y2
  unfold zSc
  by_cases y3 : 0 < s
  · rw [if_pos y3]
    have y4 := zmul_rg (x := s) (X := 2000) (y := G 3 p) (Y := 99) (by omega) y1
    omega
  · rw [if_neg y3]
    have y4 := zmul_rg (x := -s) (X := 2000) (y := G 4 p) (Y := 99) (by omega) y2
    omega
theorem zBa_rg (q_g : zGk N G S T) {p c v X : Int} (q_p : 0 ≤ p ∧ p < N) (q_c : 0 ≤ c ∧ c ≤ 120) (q_v : 0 ≤ v ∧ (v = 1000000000 ∨ v ≤ X)) : 0 ≤ zBa G S T p c v ∧ (zBa G S T p c v = 1000000000 ∨ zBa G S T p c v ≤ X + 198000) ∧ (zBa G S T p c v < 1000000000 → v < 1000000000) := by
  have y1 := zD_rg q_g (a := 0) (b := p) (by omega) (by omega) (by omega)
  have y2 := zSc_rg q_g (p := p) (s := c - zD G 0 p) q_p (by omega)
  unfold zBa
  split
  · rename_i y3; have := y3.2; omega
  · omega
theorem zBx_rg (q_g : zGk N G S T) {p c X : Int} {A : Int → Int} (q_p : 0 ≤ p ∧ p < N) (q_c : 0 ≤ c) : ∀ k : Nat, c + k ≤ 121 → (∀ x : Int, 0 ≤ x → x < k → 0 ≤ A (c + x) ∧ (A (c + x) = 1000000000 ∨ A (c + x) ≤ X)) → 0 ≤ (zBx G p A c 0 k).1 ∧ ((zBx G p A c 0 k).1 = 1000000000 ∨ (zBx G p A c 0 k).1 ≤ X + 12879) := by
  intro k
  induction k with
  | zero => intro _ _; exact ⟨by show (0 : Int) ≤ 1000000000; decide, Or.inl rfl⟩
  | succ k z_ih =>
    intro q0 q
    have y1 := z_ih (by omega) (fun x y1 y2 => q x y1 (by omega))
    have y2 := q k (by omega) (by omega)
    have y3 := q_g.2.1 1 p (by omega) (by omega) (by omega) (by omega)
    have y4 := q_g.2.1 2 p (by omega) (by omega) (by omega) (by omega)
    rw [show vmax 1 = 999 from rfl] at y3
    rw [show vmax 2 = 99 from rfl] at y4
    have y5 := zmul_rg (x := G 2 p) (X := 99) (y := (k : Int)) (Y := 120) y4 (by omega)
    have e1 : zBx G p A c 0 (k + 1) = if A (c + k) < 1000000000 ∧ zBy G p A c k < (zBx G p A c 0 k).1 then (zBy G p A c k, (k : Int)) else zBx G p A c 0 k := rfl
    rw [e1]
    by_cases y6 : A (c + k) < 1000000000 ∧ zBy G p A c k < (zBx G p A c 0 k).1
    · rw [if_pos y6]
      show 0 ≤ A (c + k) + (if 0 < (k : Int) then G 1 p + G 2 p * k else 0) ∧ (A (c + k) + (if 0 < (k : Int) then G 1 p + G 2 p * k else 0) = 1000000000 ∨ A (c + k) + (if 0 < (k : Int) then G 1 p + G 2 p * k else 0) ≤ X + 12879)
      have y7 := y6.1
      split <;> omega
    · rw [if_neg y6]; exact y1
theorem zVb_rg (q_g : zGk N G S T) {R : Int} (q_R : 0 ≤ R ∧ R ≤ 120) : ∀ r : Nat, (r : Int) ≤ N → ∀ p : Int, N - r ≤ p → p ≤ N → ∀ c : Int, 0 ≤ c → c ≤ R → 0 ≤ zVb N G S T R p c ∧ (zVb N G S T R p c = 1000000000 ∨ zVb N G S T R p c ≤ 210879 * (N - p)) := by
  intro r
  induction r with
  | zero =>
    intro _ p y1 y2 c y3 y4
    rw [show p = N by omega, zVb_n]
    split <;> omega
  | succ r z_ih =>
    intro q p y1 y2 c y3 y4
    by_cases y5 : N - r ≤ p
    · exact z_ih (by omega) p y5 y2 c y3 y4
    · rw [zVb_s N G S T R p c (by omega)]
      have y6 := q_g.2.1 5 p (by omega) (by omega) (by omega) (by omega)
      have y7 := zBx_rg q_g (p := p) (c := c) (X := 210879 * (N - (p + 1)) + 198000) (A := zAb N G S T R p) (by omega) y3 (zBn G R p c) (by unfold zBn; omega) (fun x z1 z2 => by
        have z3 := z_ih (by omega) (p + 1) (by omega) (by omega) (c + x) (by omega) (by unfold zBn at z2; omega)
        have z4 := zBa_rg q_g (p := p) (c := c + x) (X := 210879 * (N - (p + 1))) (by omega) (by unfold zBn at z2; omega) z3
        exact ⟨z4.1, z4.2.1⟩)
      omega
theorem zVb_r (q_g : zGk N G S T) {R : Int} (q_R : 0 ≤ R ∧ R ≤ 120) {p c : Int} (q_p : 0 ≤ p ∧ p ≤ N) (q_c : 0 ≤ c ∧ c ≤ R) : 0 ≤ zVb N G S T R p c ∧ (zVb N G S T R p c = 1000000000 ∨ zVb N G S T R p c ≤ 4000000) := by
  have y1 := q_g.1
  have y2 := zVb_rg q_g q_R N.toNat (by omega) p (by omega) (by omega) c q_c.1 q_c.2
  omega
theorem zAb_r (q_g : zGk N G S T) {R : Int} (q_R : 0 ≤ R ∧ R ≤ 120) {p c : Int} (q_p : 0 ≤ p ∧ p < N) (q_c : 0 ≤ c ∧ c ≤ R) : 0 ≤ zAb N G S T R p c ∧ (zAb N G S T R p c = 1000000000 ∨ zAb N G S T R p c ≤ 5000000) ∧ (zAb N G S T R p c < 1000000000 → zVb N G S T R (p + 1) c < 1000000000) := by
  have y2 := zVb_r q_g q_R (p := p + 1) (c := c) (by omega) q_c
  have y3 := zBa_rg q_g (p := p) (c := c) (X := 4000000) q_p (by omega) y2
  have e1 : zAb N G S T R p c = zBa G S T p c (zVb N G S T R (p + 1) c) := rfl
  rw [e1]
  exact ⟨y3.1, by omega, y3.2.2⟩
/-- pieces made ahead of p -/
def zCp (N : Int) (G : Int → Int → Int) (S T R : Int) : Nat → Int
  | 0 => 0
  | k + 1 => zCp N G S T R k + zPk N G S T R k (zCp N G S T R k)
/-- how many pieces are made in p by the least bounded -/
def zBm (N : Int) (G : Int → Int → Int) (S T R p : Int) : Int := if 0 ≤ p ∧ p < N then zPk N G S T R p (zCp N G S T R p.toNat) else 0
theorem zPk_ok (q_g : zGk N G S T) {R : Int} (q_R : 0 ≤ R ∧ R ≤ 120) {p c : Int} (q_p : 0 ≤ p ∧ p < N) (q_c : 0 ≤ c ∧ c ≤ R) (q_v : zVb N G S T R p c < 1000000000) : 0 ≤ zPk N G S T R p c ∧ zPk N G S T R p c ≤ G 5 p ∧ c + zPk N G S T R p c ≤ R ∧ zAb N G S T R p (c + zPk N G S T R p c) < 1000000000 ∧ zBy G p (zAb N G S T R p) c (zPk N G S T R p c) = zVb N G S T R p c ∧ (∀ x : Int, 0 ≤ x → x < zPk N G S T R p c → zAb N G S T R p (c + x) < 1000000000 → zVb N G S T R p c < zBy G p (zAb N G S T R p) c x) ∧ zVb N G S T R (p + 1) (c + zPk N G S T R p c) < 1000000000 := by
  have y1 := zBx_le (G := G) (p := p) (A := zAb N G S T R p) (c := c) (j := 0) (zBn G R p c)
  have y6 := q_g.2.1 5 p (by omega) (by omega) (by omega) (by omega)
  rw [zVb_s N G S T R p c q_p.2] at q_v ⊢
  rcases y1.2.2.1 with y2 | y2
  · omega
  · have y3 : (zBx G p (zAb N G S T R p) c 0 (zBn G R p c)).2 = zPk N G S T R p c := rfl
    rw [y3] at y2
    obtain ⟨z1, z2, z3, z4, z5⟩ := y2
    unfold zBn at z2
    have z6 := zAb_r q_g q_R (p := p) (c := c + zPk N G S T R p c) q_p (by omega)
    exact ⟨z1, by omega, by omega, z3, z4, z5, z6.2.2 z3⟩
theorem zCp_ok (q_g : zGk N G S T) {R : Int} (q_R : 0 ≤ R ∧ R ≤ 120) (q_v : zVb N G S T R 0 0 < 1000000000) : ∀ k : Nat, (k : Int) ≤ N → 0 ≤ zCp N G S T R k ∧ zCp N G S T R k ≤ R ∧ zVb N G S T R k (zCp N G S T R k) < 1000000000 := by
  intro k
  induction k with
  | zero => intro _; exact ⟨Int.le_refl _, q_R.1, q_v⟩
  | succ k z_ih =>
    intro q
    have y1 := z_ih (by omega)
    have y2 := zPk_ok q_g q_R (p := k) (c := zCp N G S T R k) (by omega) (by omega) y1.2.2
    exact ⟨by show 0 ≤ zCp N G S T R k + zPk N G S T R k (zCp N G S T R k); omega, y2.2.2.1, y2.2.2.2.2.2.2⟩
theorem zBm_hk (q_g : zGk N G S T) {R : Int} (q_R : 0 ≤ R ∧ R ≤ 120) (q_v : zVb N G S T R 0 0 < 1000000000) : zHk N (zBm N G S T R) := by
  refine ⟨fun p y1 y2 => ?_, fun p y1 => if_neg (by omega)⟩
  unfold zBm
  rw [if_pos ⟨y1, y2⟩]
  have y3 := zCp_ok q_g q_R q_v p.toNat (by omega)
  rw [show (p.toNat : Int) = p by omega] at y3
  have y4 := zPk_ok q_g q_R (p := p) (c := zCp N G S T R p.toNat) (by omega) (by omega) y3.2.2
  omega
end BM
def zBst (N : Int) (G : Int → Int → Int) (S T : Int) : Int := if 120 < zD G 0 (N - 1) then -7 else if zVb N G S T (zD G 0 (N - 1)) 0 0 < 1000000000 then 0 else -2
