/-! THE PLAN's values: bounds, what they depend on -/
theorem zBs_c {G : Int → Int → Int} {T n : Int} {V W V' W' : Int → Int} {a : Int} : ∀ k : Nat, a + k ≤ n → (∀ y : Int, a < y → y ≤ n → V y = V' y ∧ W y = W' y) → zBs G T n V W a k = zBs G T n V' W' a k := by
  intro k
  induction k with
  | zero => intro _ _; rfl
  | succ k z_ih =>
    intro q1 q2
    show zBt (zBs G T n V W a k) (a + k) (zLc G T a (a + k) (k + 1)) (V (a + k + 1)) (zLw G T a (a + k) (k + 1)) (W (a + k + 1)) = zBt (zBs G T n V' W' a k) (a + k) (zLc G T a (a + k) (k + 1)) (V' (a + k + 1)) (zLw G T a (a + k) (k + 1)) (W' (a + k + 1))
    rw [z_ih (by omega) q2, (q2 (a + k + 1) (by omega) (by omega)).1, (q2 (a + k + 1) (by omega) (by omega)).2]
theorem zPs_c {G : Int → Int → Int} {T n : Int} {V W V' W' : Int → Int} {a : Int} (q : ∀ y : Int, a < y → y ≤ n → V y = V' y ∧ W y = W' y) : zPs G T n V W a = zPs G T n V' W' a := by
  unfold zPs
  by_cases q1 : 0 < zD G a (n - 1)
  · rw [if_pos q1, if_pos q1]
    by_cases q2 : a ≤ n
    · exact zBs_c _ (by omega) q
    · rw [show (n - a).toNat = 0 by omega]; rfl
  · rw [if_neg q1, if_neg q1]
/-- of the part that ends with n: least cost from x on, last period of the first lot, how many -/
def zPv (G : Int → Int → Int) (T n x : Int) : Int × Int × Int := zPt G T n (n - x).toNat x
theorem zPt_st (G : Int → Int → Int) (T n x : Int) : ∀ r j : Nat, n - r ≤ x → zPt G T n (r + j) x = zPt G T n r x := by
  intro r j
  induction j with
  | zero => intro _; rfl
  | succ j z_ih =>
    intro q
    show (if x = n - ((r + j + 1 : Nat) : Int) then zPs G T n _ _ x else zPt G T n (r + j) x) = _
    rw [if_neg (by omega)]
    exact z_ih q
theorem zPt_v (G : Int → Int → Int) (T n x : Int) (r : Nat) (q : n - r ≤ x) (q2 : x ≤ n) : zPt G T n r x = zPv G T n x := by
  have y := zPt_st G T n x (n - x).toNat (r - (n - x).toNat) (by omega)
  rw [show (n - x).toNat + (r - (n - x).toNat) = r by omega] at y
  exact y
theorem zPv_n (G : Int → Int → Int) (T n : Int) : zPv G T n n = (0, n - 1, 1) := by
  unfold zPv
  rw [show (n - n).toNat = 0 by omega]
  rfl
theorem zPv_s (G : Int → Int → Int) (T n x : Int) (q : x < n) : zPv G T n x = zPs G T n (fun y => (zPv G T n y).1) (fun y => (zPv G T n y).2.2) x := by
  show zPt G T n (n - x).toNat x = _
  rw [show (n - x).toNat = (n - x - 1).toNat + 1 by omega]
  show (if x = n - (((n - x - 1).toNat + 1 : Nat) : Int) then zPs G T n (fun y => (zPt G T n (n - x - 1).toNat y).1) (fun y => (zPt G T n (n - x - 1).toNat y).2.2) x else _) = _
  rw [if_pos (by omega)]
  exact zPs_c (fun y q1 q2 => by
    show (zPt G T n (n - x - 1).toNat y).1 = _ ∧ (zPt G T n (n - x - 1).toNat y).2.2 = _
    rw [zPt_v G T n y _ (by omega) q2]
    exact ⟨rfl, rfl⟩)
theorem zPv_ss (G : Int → Int → Int) (T n x : Int) (q : x ≤ n) : zPv G T n x = zPs G T n (fun y => (zPv G T n y).1) (fun y => (zPv G T n y).2.2) x := by
  by_cases y : x < n
  · exact zPv_s G T n x y
  · rw [show x = n by omega, zPv_n]
    unfold zPs
    rw [if_neg]
    unfold zD
    rw [show n - 1 + 1 = n by omega]
    omega
section PB
variable {N : Int} {G : Int → Int → Int} {S T : Int}
theorem zLc_le (q_g : zGk N G S T) {a b : Int} (q_0 : 0 ≤ a ∧ a ≤ b ∧ b < N) (q_d : 0 < zD G a b) : ∀ k : Nat, zLc G T a b (k + 1) ≤ 6000000 := by
  intro k
  induction k with
  | zero =>
    have y1 := zCo_rg q_g (a := a) (b := b) (m := a) (by omega) (by omega) (by omega) (by omega)
    show (if zIsL G T a b (a + ((0 : Nat) : Int)) ∧ zCo G a b (a + ((0 : Nat) : Int)) < 1000000000 then zCo G a b (a + ((0 : Nat) : Int)) else 1000000000) ≤ 6000000
    rw [show a + ((0 : Nat) : Int) = a by omega, if_pos ⟨⟨q_d, Or.inr (by unfold zD; rw [show a - 1 + 1 = a by omega]; omega)⟩, by omega⟩]
    exact y1.2
  | succ k z_ih =>
    show (if zIsL G T a b (a + ((k + 1 : Nat) : Int)) ∧ zCo G a b (a + ((k + 1 : Nat) : Int)) < zLc G T a b (k + 1) then zCo G a b (a + ((k + 1 : Nat) : Int)) else zLc G T a b (k + 1)) ≤ 6000000
    split
    · rename_i y; have y2 := y.2; omega
    · exact z_ih
theorem zBs_rg (q_g : zGk N G S T) {n a : Int} {V W : Int → Int} (q_0 : 0 ≤ a ∧ n ≤ N) (q : ∀ y : Int, a < y → y ≤ n → 0 ≤ V y ∧ 0 ≤ W y) : ∀ k : Nat, a + k ≤ n → 0 ≤ (zBs G T n V W a k).1 ∧ 0 ≤ (zBs G T n V W a k).2.2 ∧ (zBs G T n V W a k).2.2 ≤ 9999 := by
  intro k
  induction k with
  | zero => intro _; exact ⟨by show (0 : Int) ≤ 1000000000; decide, Int.le_refl _, by show (0 : Int) ≤ 9999; decide⟩
  | succ k z_ih =>
    intro q1
    have y1 := z_ih (by omega)
    have y2 := q (a + k + 1) (by omega) (by omega)
    have y3 := zLw_rg G T a (a + k) (k + 1)
    have y4 := zLc_rg (T := T) q_g (a := a) (b := a + k) (by omega) (by omega) (k + 1) (by omega)
    have y5 := Int.mul_nonneg y3.1 y2.2
    show 0 ≤ (zBt (zBs G T n V W a k) (a + k) (zLc G T a (a + k) (k + 1)) (V (a + k + 1)) (zLw G T a (a + k) (k + 1)) (W (a + k + 1))).1 ∧ _
    show 0 ≤ (zBt (zBs G T n V W a k) (a + k) (zLc G T a (a + k) (k + 1)) (V (a + k + 1)) (zLw G T a (a + k) (k + 1)) (W (a + k + 1))).1 ∧ 0 ≤ (zBt (zBs G T n V W a k) (a + k) (zLc G T a (a + k) (k + 1)) (V (a + k + 1)) (zLw G T a (a + k) (k + 1)) (W (a + k + 1))).2.2 ∧ (zBt (zBs G T n V W a k) (a + k) (zLc G T a (a + k) (k + 1)) (V (a + k + 1)) (zLw G T a (a + k) (k + 1)) (W (a + k + 1))).2.2 ≤ 9999
    unfold zBt
    split
    · exact y1
    · split
      · dsimp only; omega
      · split
        · dsimp only; omega
        · exact y1
theorem zPv_rg (q_g : zGk N G S T) {n : Int} (q_0 : n ≤ N) : ∀ r : Nat, (r : Int) ≤ n → ∀ x : Int, n - r ≤ x → x ≤ n → 0 ≤ (zPv G T n x).1 ∧ (zPv G T n x).1 ≤ 6000000 ∧ 0 ≤ (zPv G T n x).2.2 ∧ (zPv G T n x).2.2 ≤ 9999 := by
  intro r
  induction r with
  | zero => intro _ x q1 q2; rw [show x = n by omega, zPv_n]; dsimp only; omega
  | succ r z_ih =>
    intro q x q1 q2
    by_cases q3 : n - r ≤ x
    · exact z_ih (by omega) x q3 q2
    · have y1 := z_ih (by omega)
      rw [zPv_s G T n x (by omega)]
      unfold zPs
      split
      · rename_i y_d
        have y2 := zBs_rg (T := T) q_g (n := n) (a := x) (V := fun y => (zPv G T n y).1) (W := fun y => (zPv G T n y).2.2) (by omega) (fun y q4 q5 => ⟨(y1 y (by omega) q5).1, (y1 y (by omega) q5).2.2.1⟩) (n - x).toNat (by omega)
        refine ⟨y2.1, ?_, y2.2⟩
        have y3 := zLc_le q_g (a := x) (b := n - 1) (by omega) y_d (n - 1 - x).toNat
        rw [show (n - x).toNat = (n - 1 + 1 - x).toNat by omega, zBs_s G T n _ _ x (n - 1) (by omega), show (n - 1 + 1 - x).toNat = (n - 1 - x).toNat + 1 by omega, show n - 1 + 1 = n by omega]
        unfold zBt
        rw [if_neg (by omega), zPv_n]
        dsimp only
        split
        · dsimp only; omega
        · split
          · dsimp only; omega
          · omega
      · dsimp only; omega
end PB
