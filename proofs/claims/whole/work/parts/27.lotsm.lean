/-! LOTS: bounds, the table's entries -/
theorem zmul_rg {x y X Y : Int} (q1 : 0 ≤ x ∧ x ≤ X) (q2 : 0 ≤ y ∧ y ≤ Y) : 0 ≤ x * y ∧ x * y ≤ X * Y := ⟨Int.mul_nonneg q1.1 q2.1, Int.mul_le_mul q1.2 q2.2 q2.1 (by omega)⟩
section LB
variable {N : Int} {G : Int → Int → Int} {S T : Int}
theorem zHs_rg (q_g : zGk N G S T) {a b : Int} (q_a : 0 ≤ a) (q_b : b < N) : ∀ k : Nat, a + k ≤ b → 0 ≤ zHs G a b k ∧ zHs G a b k ≤ 156816 * k := by
  intro k
  induction k with
  | zero => intro _; exact ⟨Int.le_refl _, by show (0 : Int) ≤ _; omega⟩
  | succ k z_ih =>
    intro q
    have y1 := z_ih (by omega)
    have y2 := q_g.2.1 3 (a + k) (by omega) (by omega) (by omega) (by omega)
    rw [show vmax 3 = 99 from rfl] at y2
    have y3 := zmul_rg y2 (zD_rg q_g (a := a + k + 1) (b := b) (by omega) (by omega) q_b)
    show 0 ≤ zHs G a b k + G 3 (a + k) * zD G (a + k + 1) b ∧ zHs G a b k + G 3 (a + k) * zD G (a + k + 1) b ≤ _
    omega
theorem zOs_rg (q_g : zGk N G S T) {a : Int} (q_a : 0 ≤ a) : ∀ k : Nat, a + k ≤ N → 0 ≤ zOs G a k ∧ zOs G a k ≤ 156816 * k := by
  intro k
  induction k with
  | zero => intro _; exact ⟨Int.le_refl _, by show (0 : Int) ≤ _; omega⟩
  | succ k z_ih =>
    intro q
    have y1 := z_ih (by omega)
    have y2 := q_g.2.1 4 (a + k) (by omega) (by omega) (by omega) (by omega)
    rw [show vmax 4 = 99 from rfl] at y2
    have y3 := zmul_rg y2 (zD_rg q_g (a := a) (b := a + k) (by omega) (by omega) (by omega))
    show 0 ≤ zOs G a k + G 4 (a + k) * zD G a (a + k) ∧ zOs G a k + G 4 (a + k) * zD G a (a + k) ≤ _
    omega
theorem zHe_rg (q_g : zGk N G S T) {a b : Int} (q_a : 0 ≤ a) (q_1 : a ≤ b) (q_b : b < N) : 0 ≤ zHe G a b ∧ zHe G a b ≤ 2509056 := by
  have y1 := zHs_rg q_g q_a q_b (b - a).toNat (by omega)
  have y2 := q_g.1
  unfold zHe
  omega
theorem zOw_rg (q_g : zGk N G S T) {a b : Int} (q_a : 0 ≤ a) (q_1 : a ≤ b) (q_b : b ≤ N) : 0 ≤ zOw G a b ∧ zOw G a b ≤ 2509056 := by
  have y1 := zOs_rg q_g q_a (b - a).toNat (by omega)
  have y2 := q_g.1
  unfold zOw
  omega
theorem zCo_rg (q_g : zGk N G S T) {a b m : Int} (q_a : 0 ≤ a) (q_1 : a ≤ m) (q_2 : m ≤ b) (q_b : b < N) : 0 ≤ zCo G a b m ∧ zCo G a b m ≤ 6000000 := by
  have y1 := zHe_rg q_g (a := m) (b := b) (by omega) q_2 q_b
  have y2 := zOw_rg q_g (a := a) (b := m) q_a q_1 (by omega)
  have y3 := q_g.2.1 1 m (by omega) (by omega) (by omega) (by omega)
  have y4 := q_g.2.1 2 m (by omega) (by omega) (by omega) (by omega)
  rw [show vmax 1 = 999 from rfl] at y3
  rw [show vmax 2 = 99 from rfl] at y4
  have y5 := zmul_rg y4 (zD_rg q_g (a := a) (b := b) q_a (by omega) q_b)
  unfold zCo
  omega
theorem zLc_rg (q_g : zGk N G S T) {a b : Int} (q_a : 0 ≤ a) (q_b : b < N) : ∀ k : Nat, a + k ≤ b + 1 → 0 ≤ zLc G T a b k ∧ (zLc G T a b k = 1000000000 ∨ zLc G T a b k ≤ 6000000) := by
  intro k
  induction k with
  | zero => intro _; exact ⟨by show (0 : Int) ≤ 1000000000; decide, Or.inl rfl⟩
  | succ k z_ih =>
    intro q
    have y1 := z_ih (by omega)
    have y2 := zCo_rg q_g (a := a) (b := b) (m := a + k) q_a (by omega) (by omega) q_b
    show 0 ≤ (if zIsL G T a b (a + k) ∧ zCo G a b (a + k) < zLc G T a b k then zCo G a b (a + k) else zLc G T a b k) ∧ ((if zIsL G T a b (a + k) ∧ zCo G a b (a + k) < zLc G T a b k then zCo G a b (a + k) else zLc G T a b k) = 1000000000 ∨ (if zIsL G T a b (a + k) ∧ zCo G a b (a + k) < zLc G T a b k then zCo G a b (a + k) else zLc G T a b k) ≤ 6000000)
    split
    · exact ⟨y2.1, Or.inr y2.2⟩
    · exact y1
end LB
theorem zPi_d (G : Int → Int → Int) (a b : Int) (q : 0 ≤ b) : zD G a b = zD G a (b - 1) + G 0 b := by
  unfold zD
  rw [zPi_s G b q, show b - 1 + 1 = b by omega]
  omega
theorem zHs_d (G : Int → Int → Int) (a b : Int) (q_a : 0 ≤ a) (q_b : 0 ≤ b) : ∀ k : Nat, zHs G a b k = zHs G a (b - 1) k + (zSi (G 3) (a + k) - zSi (G 3) a) * G 0 b := by
  intro k
  induction k with
  | zero =>
    rw [show a + ((0 : Nat) : Int) = a by omega, Int.sub_self, Int.zero_mul]
    rfl
  | succ k z_ih =>
    show zHs G a b k + G 3 (a + k) * zD G (a + k + 1) b = zHs G a (b - 1) k + G 3 (a + k) * zD G (a + k + 1) (b - 1) + _
    rw [z_ih, zPi_d G _ b q_b, show a + ((k + 1 : Nat) : Int) = a + k + 1 by omega, zSi_s (G 3) (a + k) (by omega), Int.mul_add, show zSi (G 3) (a + k) + G 3 (a + k) - zSi (G 3) a = (zSi (G 3) (a + k) - zSi (G 3) a) + G 3 (a + k) by omega, Int.add_mul]
    omega
/-- one period more to hold for -/
theorem zHe_d (G : Int → Int → Int) (a b : Int) (q_a : 0 ≤ a) (q_b : a < b) : zHe G a b = zHe G a (b - 1) + (zSi (G 3) b - zSi (G 3) a) * G 0 b := by
  unfold zHe
  rw [zHs_d G a b q_a (by omega), show a + ((b - a).toNat : Int) = b by omega, show (b - a).toNat = (b - 1 - a).toNat + 1 by omega]
  show zHs G a (b - 1) (b - 1 - a).toNat + G 3 (a + ((b - 1 - a).toNat : Int)) * zD G (a + ((b - 1 - a).toNat : Int) + 1) (b - 1) + _ = _
  rw [show a + ((b - 1 - a).toNat : Int) + 1 = b by omega, show zD G b (b - 1) = 0 from by unfold zD; rw [show b - 1 + 1 = b by omega]; omega, Int.mul_zero]
  omega
theorem zHe_0 (G : Int → Int → Int) (a : Int) : zHe G a a = 0 := by
  unfold zHe
  rw [show (a - a).toNat = 0 by omega]
  rfl
/-- the entry a, b of the class's table after k periods to make it in -/
def zEn (cC cM cS : Nat) (zg : am_H) (G : Int → Int → Int) (T a b : Int) (k : Nat) : Prop := zg.1 cC (16 * a + b).toNat = iN (zLc G T a b k) ∧ (zLc G T a b k < 1000000000 → zg.1 cM (16 * a + b).toNat = iN (zLm G T a b k) ∧ zg.1 cS (16 * a + b).toNat = iN (zLw G T a b k))
def zOff (cC cM cS : Nat) (zh : am_H) (zi zm zv zc : Int) (zg : am_H) : Prop := (zv < zc ∧ am_wr (am_wr (am_wr zh cC zi.toNat (iN zv)) cM zi.toNat (iN zm)) cS zi.toNat (iN 1) = zg) ∨ (zv = zc ∧ am_wr zh cS zi.toNat (zh.1 cS zi.toNat + iN 1) = zg) ∨ (zc < zv ∧ zh = zg)
theorem zEn_off {cC cM cS : Nat} {zh zg : am_H} {G : Int → Int → Int} {T a b : Int} {k : Nat} (q_d : cC ≠ cM ∧ cC ≠ cS ∧ cM ≠ cS) (q : zEn cC cM cS zh G T a b k) (q_l : zIsL G T a b (a + k)) (q_v : zCo G a b (a + k) < 1000000000) (q_o : zOff cC cM cS zh (16 * a + b) (a + k) (zCo G a b (a + k)) (zLc G T a b k) zg) : zEn cC cM cS zg G T a b (k + 1) := by
  rcases q_o with ⟨y1, rfl⟩ | ⟨y1, rfl⟩ | ⟨y1, rfl⟩
  · have e1 : zLc G T a b (k + 1) = zCo G a b (a + k) := if_pos ⟨q_l, y1⟩
    have e2 : zLm G T a b (k + 1) = a + k := if_pos ⟨q_l, y1⟩
    have e3 : zLw G T a b (k + 1) = 1 := if_pos ⟨q_l, y1⟩
    unfold zEn
    rw [e1, e2, e3, am_wr_ne q_d.2.1, am_wr_ne q_d.1, am_wr_at, am_wr_ne q_d.2.2, am_wr_at, am_wr_at]
    exact ⟨rfl, fun _ => ⟨rfl, rfl⟩⟩
  · have y2 : ¬ (zIsL G T a b (a + k) ∧ zCo G a b (a + k) < zLc G T a b k) := fun y => by have y3 := y.2; omega
    have e1 : zLc G T a b (k + 1) = zLc G T a b k := if_neg y2
    have e2 : zLm G T a b (k + 1) = zLm G T a b k := if_neg y2
    have e3 : zLw G T a b (k + 1) = zLw G T a b k + 1 := (if_neg y2).trans (if_pos ⟨q_l, y1⟩)
    have y4 := q.2 (by omega)
    unfold zEn
    rw [e1, e2, e3, am_wr_ne q_d.2.1, am_wr_ne q_d.2.2, am_wr_at, y4.2]
    exact ⟨q.1, fun _ => ⟨y4.1, (Int32.ofInt_add _ _).symm⟩⟩
  · have y2 : ¬ (zIsL G T a b (a + k) ∧ zCo G a b (a + k) < zLc G T a b k) := fun y => by have y3 := y.2; omega
    have y3 : ¬ (zIsL G T a b (a + k) ∧ zCo G a b (a + k) = zLc G T a b k) := fun y => by have y3 := y.2; omega
    have e1 : zLc G T a b (k + 1) = zLc G T a b k := if_neg y2
    have e2 : zLm G T a b (k + 1) = zLm G T a b k := if_neg y2
    have e3 : zLw G T a b (k + 1) = zLw G T a b k := (if_neg y2).trans (if_neg y3)
    unfold zEn
    rw [e1, e2, e3]
    exact q
/-- no lot: nothing changes -/
theorem zEn_no {cC cM cS : Nat} {zh : am_H} {G : Int → Int → Int} {T a b : Int} {k : Nat} (q : zEn cC cM cS zh G T a b k) (q_l : ¬ zIsL G T a b (a + k)) : zEn cC cM cS zh G T a b (k + 1) := by
  have y2 : ∀ P : Prop, ¬ (zIsL G T a b (a + k) ∧ P) := fun P y => q_l y.1
  have e1 : zLc G T a b (k + 1) = zLc G T a b k := if_neg (y2 _)
  have e2 : zLm G T a b (k + 1) = zLm G T a b k := if_neg (y2 _)
  have e3 : zLw G T a b (k + 1) = zLw G T a b k := (if_neg (y2 _)).trans (if_neg (y2 _))
  unfold zEn
  rw [e1, e2, e3]
  exact q
theorem zEn_oth {cC cM cS : Nat} {zh zg : am_H} {G : Int → Int → Int} {T a b zi zm zv zc : Int} {k : Nat} (q_d : cC ≠ cM ∧ cC ≠ cS ∧ cM ≠ cS) (q : zEn cC cM cS zh G T a b k) (q_i : (16 * a + b).toNat ≠ zi.toNat) (q_o : zOff cC cM cS zh zi zm zv zc zg) : zEn cC cM cS zg G T a b k := by
  rcases q_o with ⟨y1, rfl⟩ | ⟨y1, rfl⟩ | ⟨y1, rfl⟩
  · unfold zEn
    rw [am_wr_ne q_d.2.1, am_wr_ne q_d.1, am_wr_no q_i, am_wr_ne q_d.2.2, am_wr_no q_i, am_wr_no q_i, am_wr_ne q_d.1.symm, am_wr_ne q_d.2.2.symm, am_wr_ne q_d.2.1.symm]
    exact q
  · unfold zEn
    rw [am_wr_ne q_d.2.1, am_wr_ne q_d.2.2, am_wr_no q_i]
    exact q
  · exact q
theorem zOff_f {cC cM cS : Nat} {zh zg : am_H} {zi zm zv zc : Int} {ks : List Nat} (q1 : cC ∈ ks) (q2 : cM ∈ ks) (q3 : cS ∈ ks) (q_o : zOff cC cM cS zh zi zm zv zc zg) : am_fr ks zh zg := by
  rcases q_o with ⟨y1, rfl⟩ | ⟨y1, rfl⟩ | ⟨y1, rfl⟩
  · exact am_fr_w (am_fr_w (am_fr_w (am_fr_0 _ _) q1 _ _) q2 _ _) q3 _ _
  · exact am_fr_w (am_fr_0 _ _) q3 _ _
  · exact am_fr_0 _ _
